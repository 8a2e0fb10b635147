/** For each promise of the document: ordinary inputs, the edges that it names, and wrong inputs. */
public final class PromiseTest {
    private static final int INVALID = -11;
    private static final int IMPOSSIBLE = -12;
    private static final int LIMIT = -13;
    private static final int NONE = -14;

    private static int wrong = 0;
    private static String part = "";

    public static void main(String[] args) {
        constants();
        promise1();
        promise2();
        promise3();
        promise4();
        promise5();
        promise6();
        promise7();
        promise8();
        promise9();
        promise10();
        promise11();
        promise12();
        promise13();
        promise13Groups();
        promise14();
        promise15();
        promise16();
        promise17();
        promise18();
        promise19();
        promise20();
        promise21();
        promise22();
        promise23();
        promise23Everything();
        System.out.println(wrong == 0 ? "all promises hold" : wrong + " answers are wrong");
        if (wrong != 0) {
            System.exit(1);
        }
    }

    private static void due(String call, int got, int want) {
        if (got != want) {
            wrong++;
            System.out.println(part + ": " + call + " answered " + got + ", due is " + want);
        }
    }

    /** Makes the text this one. */
    private static void text(BlackBars x, String text) {
        x.clearText();
        for (char c : text.toCharArray()) {
            x.type(c);
        }
    }

    private static int name(BlackBars x, String name) {
        text(x, name);
        return x.name();
    }

    private static int ending(BlackBars x, String ending) {
        text(x, ending);
        return x.ending();
    }

    private static int page(BlackBars x, String page) {
        text(x, page);
        return x.page();
    }

    private static BlackBars made(String names, String endings, String page) {
        BlackBars x = new BlackBars();
        for (String name : names.split(" ")) {
            name(x, name);
        }
        for (String ending : endings.split(" ")) {
            ending(x, ending);
        }
        page(x, page);
        return x;
    }

    private static void constants() {
        part = "constants";
        due("INVALID_ARGUMENT", BlackBars.INVALID_ARGUMENT, INVALID);
        due("NOT_POSSIBLE", BlackBars.NOT_POSSIBLE, IMPOSSIBLE);
        due("LIMIT_REACHED", BlackBars.LIMIT_REACHED, LIMIT);
        due("NOT_FOUND", BlackBars.NOT_FOUND, NONE);
    }

    private static void promise1() {
        part = "promise 1";
        BlackBars x = new BlackBars();
        int[] first = {0, 0, 0, 0, 0, 0, 0, 10, 3, 3, 80, 0, 0, 0, 0, 0, 0};
        for (int what = 0; what < first.length; what++) {
            due("count(" + what + ")", x.count(what), first[what]);
        }
        due("word(0, 0)", x.word(0, 0), INVALID);
        due("line(0, 0)", x.line(0, 0), INVALID);
        due("under(0)", x.under(0), 0);
        String letters = "abcdefghijklmnopqrstuvwxyz";
        String widths = "44444344224264444343446444";
        for (int i = 0; i < 26; i++) {
            due("widen of " + letters.charAt(i), x.widen(letters.charAt(i), 5), widths.charAt(i) - '0');
        }
        due("history", x.count(15), 4);
        due("history of another object", new BlackBars().count(15), 0);
        due("widen in another object", new BlackBars().widen('a', 5), 4);
    }

    private static void promise2() {
        part = "promise 2";
        BlackBars x = new BlackBars();
        due("type(32)", x.type(32), 1);
        due("type(126)", x.type(126), 2);
        due("type(31)", x.type(31), INVALID);
        due("type(127)", x.type(127), INVALID);
        due("type(least)", x.type(Integer.MIN_VALUE), INVALID);
        for (int i = 3; i <= 200; i++) {
            due("type", x.type('a'), i);
        }
        due("type at the limit", x.type('a'), LIMIT);
        due("type of a wrong one at the limit", x.type(0), INVALID);
        due("length", x.count(16), 200);
    }

    private static void promise3() {
        part = "promise 3";
        BlackBars x = new BlackBars();
        due("of an empty text", x.clearText(), 0);
        text(x, "a b!");
        due("clearText", x.clearText(), 4);
        due("length", x.count(16), 0);
        due("fault", x.fault(0), NONE);
        due("history", x.count(15), 0);
    }

    /** On an object of its own, for nothing is promised behind 512 calls. */
    private static void fault(String text, int index, int reason) {
        BlackBars x = new BlackBars();
        text(x, text);
        due("fault(0) of '" + text + "'", x.fault(0), index);
        due("fault(1) of '" + text + "'", x.fault(1), reason);
    }

    private static void promise4() {
        part = "promise 4";
        BlackBars x = new BlackBars();
        due("fault(-1)", x.fault(-1), INVALID);
        due("fault(2)", x.fault(2), INVALID);
        fault("", NONE, NONE);
        fault("a", NONE, NONE);
        fault("az zz", NONE, NONE);
        fault("A", 0, 1);
        fault("az`", 2, 1);
        fault("az{", 2, 1);
        fault("a- b", 1, 1);
        fault(" ", 0, 2);
        fault(" a", 0, 2);
        fault("a ", 1, 2);
        fault("a  ", 2, 2);
        fault("a  b!", 2, 2);
        fault("abcdefghijkl", NONE, NONE);
        fault("abcdefghijkl a", NONE, NONE);
        fault("abcdefghijklm", 12, 3);
        fault("ab abcdefghijklmnopqrs", 15, 3);
        fault("a ".repeat(39) + "ab", NONE, NONE);
        fault("a ".repeat(40) + "b", 80, 4);
        fault("a ".repeat(40) + "bcd", 80, 4);
        fault("a ".repeat(40), 79, 2);
        fault("a ".repeat(40) + "!", 80, 1);
        fault("abcdefghijklm A", 12, 3);
    }

    private static void promise5() {
        part = "promise 5";
        BlackBars x = new BlackBars();
        due("page", page(x, "one two three"), 3);
        due("length", x.count(16), 13);
        due("again", x.page(), 3);
        due("history", x.count(15), 2);
        due("a faulty one", page(x, "one "), IMPOSSIBLE);
        due("faulty at once", page(x, " one"), IMPOSSIBLE);
        due("words", x.count(0), 3);
        due("history", x.count(15), 2);
        due("an empty one", page(x, ""), 0);
        due("words", x.count(0), 0);
        due("lines", x.count(2), 0);
        due("40 words", page(x, "a ".repeat(39) + "a"), 40);
        due("the last word", x.word(39, 0), 1);
        due("no word", x.word(40, 0), INVALID);
    }

    private static void promise6() {
        part = "promise 6";
        BlackBars x = new BlackBars();
        due("name", name(x, "abcdefgh"), 0);
        due("the same", x.name(), IMPOSSIBLE);
        due("length", x.count(16), 8);
        due("too long", name(x, "abcdefghi"), IMPOSSIBLE);
        due("empty", name(x, ""), IMPOSSIBLE);
        due("two words", name(x, "a b"), IMPOSSIBLE);
        due("with a blank", name(x, "a "), IMPOSSIBLE);
        due("with a blank at first", name(x, " a"), IMPOSSIBLE);
        due("no letter at first", name(x, "Ba"), IMPOSSIBLE);
        due("no letter", name(x, "aB"), IMPOSSIBLE);
        due("history", x.count(15), 1);
        due("a start of one", name(x, "abc"), 1);
        for (int i = 2; i < 8; i++) {
            due("name", name(x, "x" + (char) ('a' + i)), i);
        }
        due("a ninth", name(x, "z"), LIMIT);
        due("a ninth that is one", name(x, "abc"), IMPOSSIBLE);
        due("a ninth that is none", name(x, ""), IMPOSSIBLE);
        due("names", x.count(3), 8);
        due("forms", x.count(5), 8);
    }

    private static void promise7() {
        part = "promise 7";
        BlackBars x = new BlackBars();
        due("ending", ending(x, "abc"), 0);
        due("the same", x.ending(), IMPOSSIBLE);
        due("as a name", x.name(), 0);
        due("too long", ending(x, "abcd"), IMPOSSIBLE);
        due("empty", ending(x, ""), IMPOSSIBLE);
        due("no letter", ending(x, "a-"), IMPOSSIBLE);
        due("no letter at first", ending(x, "-a"), IMPOSSIBLE);
        due("second", ending(x, "ab"), 1);
        due("third", ending(x, "b"), 2);
        due("fourth", ending(x, "c"), 3);
        due("fifth", ending(x, "d"), LIMIT);
        due("a fifth that is one", ending(x, "ab"), IMPOSSIBLE);
        due("length", x.count(16), 2);
        due("endings", x.count(4), 4);
        due("forms", x.count(5), 5);
    }

    private static void promise8() {
        part = "promise 8";
        BlackBars x = made("ann bob timothy", "s", "ann bobs timothys");
        due("dropName(-1)", x.dropName(-1), INVALID);
        due("dropName(3)", x.dropName(3), INVALID);
        due("dropName(1)", x.dropName(1), 2);
        due("bobs", x.word(1, 3), 0);
        due("timothys", x.word(2, 4), 1);
        due("timothy", x.form(1, -1, 0), 7);
        due("a new one", name(x, "bobs"), 2);
        due("bobs", x.word(1, 4), 2);
        due("dropName(0)", x.dropName(0), 2);
        due("dropName(1)", x.dropName(1), 1);
        due("dropName(0)", x.dropName(0), 0);
        due("dropName(0) of none", x.dropName(0), INVALID);
        due("hidden", x.count(1), 0);
    }

    private static void promise9() {
        part = "promise 9";
        BlackBars x = made("ann", "s ing x", "ann anns anning annx");
        due("dropEnding(-1)", x.dropEnding(-1), INVALID);
        due("dropEnding(3)", x.dropEnding(3), INVALID);
        due("hidden", x.count(1), 4);
        due("dropEnding(0)", x.dropEnding(0), 2);
        due("anns", x.word(1, 3), 0);
        due("anning", x.word(2, 5), 0);
        due("annx", x.word(3, 5), 1);
        due("forms", x.count(5), 3);
        due("dropEnding(1)", x.dropEnding(1), 1);
        due("dropEnding(0)", x.dropEnding(0), 0);
        due("dropEnding(0) of none", x.dropEnding(0), INVALID);
        due("ann", x.word(0, 5), -1);
    }

    private static void promise10() {
        part = "promise 10";
        BlackBars x = made("ab", "c", "abc a z");
        due("widen(96, 1)", x.widen(96, 1), INVALID);
        due("widen(123, 1)", x.widen(123, 1), INVALID);
        due("widen(97, 0)", x.widen(97, 0), INVALID);
        due("widen(97, 10)", x.widen(97, 10), INVALID);
        due("history", x.count(15), 3);
        due("widen(97, 9)", x.widen(97, 9), 4);
        due("widen(97, 9)", x.widen(97, 9), 9);
        due("widen(122, 1)", x.widen(122, 1), 4);
        due("abc", x.word(0, 1), 17);
        due("a", x.word(1, 1), 9);
        due("z", x.word(2, 1), 1);
        due("the form", x.form(0, 0, 1), 17);
        due("the bar", x.word(0, 2), 17);
        due("history", x.count(15), 4);
    }

    private static void promise11() {
        part = "promise 11";
        BlackBars x = new BlackBars();
        int[] least = {0, 1, 1, 1, 20};
        int[] greatest = {3, 50, 8, 9, 200};
        int[] first = {0, 10, 3, 3, 80};
        for (int what = 0; what < 5; what++) {
            due("set below", x.set(what, least[what] - 1), INVALID);
            due("set above", x.set(what, greatest[what] + 1), INVALID);
            due("set(" + what + ", greatest)", x.set(what, greatest[what]), first[what]);
            due("set(" + what + ", least)", x.set(what, least[what]), greatest[what]);
            due("count", x.count(6 + what), least[what]);
        }
        due("set(-1, 1)", x.set(-1, 1), INVALID);
        due("set(5, 20)", x.set(5, 20), INVALID);
        BlackBars y = new BlackBars();
        due("set of the same value", y.set(0, 0), 0);
        due("is a change", y.count(15), 1);
        due("set of a wrong value", y.set(0, 4), INVALID);
        due("is none", y.count(15), 1);
    }

    private static void promise12() {
        part = "promise 12";
        // widths: ann 12, anns 16, il 4, ils 8, tom 13, toms 17
        BlackBars x = made("ann il tom", "s", "ann il the anns ann il");
        due("count(-1)", x.count(-1), INVALID);
        due("count(17)", x.count(17), INVALID);
        int[] own = {6, 5, 1, 3, 1, 6, 0, 10, 3, 3, 80, 5, 59, 0, 3, 4, 22};
        for (int what = 0; what < own.length; what++) {
            due("count(" + what + ")", x.count(what), own[what]);
        }
        x.set(0, 1);
        // bars of steps of 10: ann 20, il 10, anns 20, ils 10, tom 20, toms 20
        due("betrayed", x.count(11), 2);
        due("shown", x.count(12), 91);
        due("gaps", x.count(13), 32);
        due("different", x.count(14), 2);
        x.set(0, 3);
        due("betrayed", x.count(11), 0);
        due("shown", x.count(12), 96);
        due("gaps", x.count(13), 37);
        due("different", x.count(14), 1);
        due("lines", x.count(2), 2);
    }

    private static void promise13() {
        part = "promise 13";
        BlackBars x = made("il ill tom", "l", "ill the toms ilm il toml");
        due("word(-1, 0)", x.word(-1, 0), INVALID);
        due("word(6, 0)", x.word(6, 0), INVALID);
        due("word(0, -1)", x.word(0, -1), INVALID);
        due("word(0, 10)", x.word(0, 10), INVALID);
        // ill is first il with l, then ill itself
        int[] ill = {3, 6, 6, 1, 0, 0, 0, 0, 3, 2};
        int[] the = {3, 11, 11, 0, NONE, NONE, 0, 9, NONE, NONE};
        int[] il = {2, 4, 4, 1, 0, -1, 0, 56, 1, 1};
        int[] toml = {4, 15, 15, 1, 2, 0, 0, 63, 4, 1};
        for (int what = 0; what < 10; what++) {
            due("word(0, " + what + ")", x.word(0, what), ill[what]);
            due("word(1, " + what + ")", x.word(1, what), the[what]);
            due("word(4, " + what + ")", x.word(4, what), il[what]);
            due("word(5, " + what + ")", x.word(5, what), toml[what]);
        }
        x.set(0, 1);
        x.set(1, 5);
        due("a step up", x.word(0, 2), 10);
        due("just a multiple", x.word(5, 2), 15);
        x.set(1, 50);
        due("a wide step", x.word(4, 2), 50);
        due("the names", x.word(4, 8), 7);
        due("how many", x.word(4, 9), 3);
        x.set(0, 3);
        due("all alike", x.word(4, 2), 15);
    }

    private static void promise13Groups() {
        part = "promise 13, groups";
        // sorted: i 2, ij 4, ja 6, aa 8, ab 8, abi 10, aba 12
        BlackBars x = made("i ij ab aa ja abi aba", "zzz", "i ij ja aa ab abi aba");
        x.dropEnding(0);
        x.set(0, 2);
        int[][] bars = {
            {2, 4, 6, 8, 8, 10, 12},
            {4, 4, 8, 8, 12, 12, 12},
            {6, 6, 6, 12, 12, 12, 12},
            {12, 12, 12, 12, 12, 12, 12}
        };
        int[] aaAtTwo = {4, 4, 8, 12, 8, 12, 12};
        for (int group = 1; group <= 4; group++) {
            x.set(2, group);
            for (int word = 0; word < 7; word++) {
                // ab is name 2 and aa name 3: of one width, ab comes first
                int[] row = group == 2 ? aaAtTwo : bars[group - 1];
                due("group " + group + " word " + word, x.word(word, 2), row[word]);
            }
        }
        x.set(2, 8);
        due("a group that is not full", x.word(0, 2), 12);
        x.set(2, 7);
        due("a group that is just full", x.word(0, 2), 12);
        x.dropName(6);
        x.set(2, 3);
        due("two full groups", x.word(0, 2), 6);
        due("two full groups", x.word(3, 2), 10);
    }

    private static void promise14() {
        part = "promise 14";
        BlackBars x = made("ann", "s", "one anns");
        due("letter(0, 0)", x.letter(0, 0), 'o');
        due("letter(0, 2)", x.letter(0, 2), 'e');
        due("letter(0, 3)", x.letter(0, 3), NONE);
        due("letter(0, -1)", x.letter(0, -1), INVALID);
        due("letter(2, 0)", x.letter(2, 0), INVALID);
        due("letter(-1, 0)", x.letter(-1, 0), INVALID);
        due("letter(1, 0)", x.letter(1, 0), IMPOSSIBLE);
        due("letter(1, 9)", x.letter(1, 9), IMPOSSIBLE);
        due("letter(1, -1)", x.letter(1, -1), INVALID);
        due("letter(0, greatest)", x.letter(0, Integer.MAX_VALUE), NONE);
    }

    private static void promise15() {
        part = "promise 15";
        BlackBars x = made("ann", "s", "aaa annx anns mmmmm b ann ann");
        x.set(4, 34);
        // widths 12 16 16 30 4 12 12 with gaps of 3
        int[][] lines = {{0, 2, 31, 3, 0}, {2, 1, 16, 18, 1}, {3, 1, 30, 4, 0}, {4, 3, 34, 0, 2}};
        due("lines", x.count(2), 4);
        for (int line = 0; line < 4; line++) {
            for (int what = 0; what < 5; what++) {
                due("line(" + line + ", " + what + ")", x.line(line, what), lines[line][what]);
            }
        }
        due("line(0, -1)", x.line(0, -1), INVALID);
        due("line(0, 5)", x.line(0, 5), INVALID);
        due("line(-1, 0)", x.line(-1, 0), INVALID);
        due("line(4, 0)", x.line(4, 0), INVALID);
        x.set(4, 33);
        due("one too wide", x.count(2), 5);
        x.set(4, 20);
        due("a word too wide", x.line(x.word(3, 6), 2), 30);
        due("what is left of it", x.line(x.word(3, 6), 3), 0);
        due("it is alone", x.line(x.word(3, 6), 1), 1);
        due("and behind it", x.word(4, 6), x.word(3, 6) + 1);
        x.set(3, 4);
        due("a gap that just fits", x.word(5, 6), x.word(4, 6));
        x.set(3, 5);
        due("a gap that does not fit", x.word(5, 6), x.word(4, 6) + 1);
        page(x, "mmmmm b");
        due("a word too wide at first", x.line(0, 1), 1);
        due("lines", x.count(2), 2);
    }

    private static void promise16() {
        part = "promise 16";
        BlackBars x = made("ann", "s", "aaa annx anns mmmmm b ann ann");
        x.set(0, 1);
        x.set(4, 40);
        for (int line = 0; line < x.count(2); line++) {
            due("widthAgain(" + line + ")", x.widthAgain(line), x.line(line, 2));
        }
        due("widthAgain(0)", x.widthAgain(0), 31);
        due("widthAgain(-1)", x.widthAgain(-1), INVALID);
        due("behind the last", x.widthAgain(x.count(2)), INVALID);
    }

    private static void promise17() {
        part = "promise 17";
        BlackBars x = made("il ill tom", "l es", "ill il ill tomes");
        x.set(0, 1);
        int[][] forms = {{2, 4, 10, 1}, {3, 6, 10, 2}, {4, 12, 20, 0}};
        for (int ending = -1; ending < 2; ending++) {
            for (int what = 0; what < 4; what++) {
                due("form(0, " + ending + ", " + what + ")", x.form(0, ending, what), forms[ending + 1][what]);
            }
        }
        due("ill itself hides none", x.form(1, -1, 3), 0);
        due("tomes", x.form(2, 1, 3), 1);
        due("tomes", x.form(2, 1, 1), 21);
        due("tomes", x.form(2, 1, 2), 30);
        due("form(-1, 0, 0)", x.form(-1, 0, 0), INVALID);
        due("form(3, 0, 0)", x.form(3, 0, 0), INVALID);
        due("form(0, -2, 0)", x.form(0, -2, 0), INVALID);
        due("form(0, 2, 0)", x.form(0, 2, 0), INVALID);
        due("form(0, 0, -1)", x.form(0, 0, -1), INVALID);
        due("form(0, 0, 4)", x.form(0, 0, 4), INVALID);
    }

    private static void promise18() {
        part = "promise 18";
        BlackBars x = made("aa ab il", "e", "");
        due("under(8)", x.under(8), 7);
        due("under(12)", x.under(12), 3);
        due("under(4)", x.under(4), 4);
        due("under(0)", x.under(0), 0);
        due("under(500)", x.under(500), 0);
        due("under(-1)", x.under(-1), INVALID);
        due("under(501)", x.under(501), INVALID);
        x.set(0, 3);
        due("under(12)", x.under(12), 7);
        due("under(8)", x.under(8), 0);
    }

    private static void promise19() {
        part = "promise 19";
        // with e behind: aa 8 12, il 4 8, mm 12 16, ab 8 12
        BlackBars x = made("aa il mm ab", "e", "aa mme and");
        x.set(0, 1);
        // bars of 10: aa 8, il 4 and 8, ab 8; bars of 20: aa 12, mm 12 and 16, ab 12
        int[][] ten = {{0, 2}, {1, 2}, {3, 2}};
        int[][] twenty = {{2, 4}, {0, 8}, {3, 8}};
        for (int place = 0; place < 3; place++) {
            for (int what = 0; what < 2; what++) {
                due("guess(0, " + place + ", " + what + ")", x.guess(0, place, what), ten[place][what]);
                due("guess(1, " + place + ", " + what + ")", x.guess(1, place, what), twenty[place][what]);
            }
        }
        due("guess(0, 3, 0)", x.guess(0, 3, 0), NONE);
        due("guess(1, 3, 1)", x.guess(1, 3, 1), NONE);
        due("guess(0, greatest, 0)", x.guess(0, Integer.MAX_VALUE, 0), NONE);
        due("guess(0, -1, 0)", x.guess(0, -1, 0), INVALID);
        due("guess(0, 0, 2)", x.guess(0, 0, 2), INVALID);
        due("guess(0, 0, -1)", x.guess(0, 0, -1), INVALID);
        due("guess(3, 0, 0)", x.guess(3, 0, 0), INVALID);
        due("guess(-1, 0, 0)", x.guess(-1, 0, 0), INVALID);
        due("guess(2, 0, 0)", x.guess(2, 0, 0), IMPOSSIBLE);
        due("guess(2, 9, 0)", x.guess(2, 9, 0), IMPOSSIBLE);
        due("guess(2, 0, 2)", x.guess(2, 0, 2), INVALID);
    }

    private static void promise20() {
        part = "promise 20";
        BlackBars x = made("aa ab il", "e", "aa abe the");
        due("same(0, 1)", x.same(0, 1), 1);
        due("same(1, 0)", x.same(1, 0), 1);
        due("same(0, 2)", x.same(0, 2), 0);
        due("same(2, 2)", x.same(2, 2), 1);
        due("same(0, 3)", x.same(0, 3), INVALID);
        due("same(3, 0)", x.same(3, 0), INVALID);
        due("same(-1, 0)", x.same(-1, 0), INVALID);
        due("same(0, -1)", x.same(0, -1), INVALID);
        due("same(3, 3)", x.same(3, 3), INVALID);
        x.set(0, 1);
        // il 4 and aa 8 both have bars of 10, but abe 12 has one of 20 and ile 8 one of 10
        due("the names themselves", x.same(0, 2), 1);
        due("with the ending", x.same(1, 2), 0);
        page(x, "the end");
        due("of none on the page", x.same(1, 2), 1);
        page(x, "ile");
        due("as a form of the other", x.same(1, 2), 0);
        due("of neither", x.same(0, 1), 1);
    }

    private static void promise21() {
        part = "promise 21";
        // aa 8, bbb 12, mmm 18
        BlackBars x = made("aa bbb mmm", "zzz", "aa the");
        x.dropEnding(0);
        due("stepFor(0)", x.stepFor(0), INVALID);
        due("stepFor(9)", x.stepFor(9), INVALID);
        due("stepFor(1)", x.stepFor(1), 1);
        due("stepFor(2)", x.stepFor(2), 6);
        due("stepFor(3)", x.stepFor(3), 18);
        due("stepFor(4)", x.stepFor(4), NONE);
        due("the mode stays", x.count(6), 0);
        due("the step stays", x.count(7), 10);
        due("the bar stays", x.word(0, 2), 8);
        page(x, "mmm the");
        due("stepFor(2)", x.stepFor(2), 9);
        page(x, "the end");
        due("without bars", x.stepFor(8), 1);
        name(x, "mmmmmmmm");
        page(x, "mmmmmmmm");
        x.widen('m', 9);
        due("out of reach of a step of 50", x.stepFor(2), NONE);
        BlackBars y = made("a mmmmmmzz", "x", "a");
        y.widen('a', 1);
        y.widen('z', 7);
        y.dropEnding(0);
        due("the greatest step", y.stepFor(2), 50);
        y.widen('z', 8);
        due("and none beyond", y.stepFor(2), NONE);
    }

    private static void promise22() {
        part = "promise 22";
        BlackBars x = new BlackBars();
        due("without words", x.modeFor(), 0);
        page(x, "the end");
        due("without bars", x.modeFor(), 0);
        name(x, "aa");
        due("one name", x.modeFor(), 0);
        page(x, "aa");
        due("one name on the page", x.modeFor(), NONE);
        name(x, "il");
        // own: betrayed; steps of 10: 10; groups: 8; alike: 8
        due("two names", x.modeFor(), 2);
        due("the mode stays", x.count(6), 0);
        x.set(1, 8);
        due("the step as good as the group", x.modeFor(), 1);
        x.set(1, 7);
        due("a step that betrays", x.modeFor(), 2);
        x.set(2, 1);
        due("a group that betrays", x.modeFor(), 3);
        name(x, "ab");
        due("as wide of themselves", x.modeFor(), 0);
    }

    private static void promise23() {
        part = "promise 23";
        BlackBars x = new BlackBars();
        due("undo of none", x.undo(), IMPOSSIBLE);
        for (int step = 1; step <= 5; step++) {
            x.set(1, step);
        }
        due("history", x.count(15), 4);
        for (int left = 3; left >= 0; left--) {
            due("undo", x.undo(), left);
            due("the step", x.count(7), left + 1);
        }
        due("undo of none", x.undo(), IMPOSSIBLE);
        due("the oldest is dropped", x.count(7), 1);
        x.set(1, 20);
        due("history", x.count(15), 1);
        due("errors record nothing", x.set(1, 51), INVALID);
        due("undo", x.undo(), 0);
        due("the step", x.count(7), 1);
    }

    private static void promise23Everything() {
        part = "promise 23, everything";
        BlackBars x = made("ann bob", "s ed", "ann the bobed");
        x.dropName(0);
        x.dropEnding(0);
        x.widen('b', 9);
        page(x, "bob bob");
        due("undo of page", x.undo(), 3);
        due("words", x.count(0), 3);
        due("the text stays", x.count(16), 7);
        due("bobed", x.word(2, 2), 30);
        due("undo of widen", x.undo(), 2);
        due("bobed", x.word(2, 2), 20);
        due("bobed", x.word(2, 5), 0);
        due("undo of dropEnding", x.undo(), 1);
        due("bobed", x.word(2, 5), 1);
        due("bobed", x.word(2, 4), 0);
        due("undo of dropName", x.undo(), 0);
        due("bobed", x.word(2, 4), 1);
        due("ann", x.word(0, 4), 0);
        name(x, "the");
        due("hidden", x.count(1), 3);
        due("undo of name", x.undo(), 0);
        due("hidden", x.count(1), 2);
        ending(x, "t");
        due("undo of ending", x.undo(), 0);
        due("endings", x.count(4), 2);
        due("the", x.letter(1, 0), 't');
    }
}
