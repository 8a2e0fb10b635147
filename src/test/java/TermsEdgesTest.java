/** The edges that the "Terms" of the document name, sentence by sentence. */
public final class TermsEdgesTest {
    private static final Edges EDGES = new Edges();

    public static void main(String[] args) {
        textAndLetters();
        page();
        names();
        endings();
        forms();
        hiddenWords();
        ownAndSteps();
        groups();
        orderOfForms();
        allAlikeAndShown();
        lineWidths();
        wideWords();
        manyLines();
        places();
        guessing();
        betrayed();
        samePage();
        changes();
        history();
        faultsOfCharactersAndBlanks();
        faultsOfLettersAndWords();
        firstFault();
        invalidFirst();
        impossibleFirst();
        numbersOfNone();
        EDGES.end();
    }

    private static void textAndLetters() {
        EDGES.edge("a text of at most 200 characters, initially empty",
            "count 16 = 0", "clearText = 0",
            "'" + "a".repeat(199) + "'", "count 16 = 199",
            "type 98 = 200", "count 16 = 200",
            "type 98 = LIMIT_REACHED", "count 16 = 200",
            "clearText = 200", "count 16 = 0", "type 98 = 1");
        EDGES.edge("words are sequences of letters a to z",
            "'az za' page = 2", "letter 0 0..1 = 97 122", "letter 1 0..1 = 122 97",
            "'a`' page = NOT_POSSIBLE", "'a{' page = NOT_POSSIBLE",
            "'A' page = NOT_POSSIBLE", "'Z' page = NOT_POSSIBLE", "'a1' page = NOT_POSSIBLE",
            "count 0 = 2");
        EDGES.edge("a letter has a width from 1 to 9, at first 2, 3, 6 or 4",
            "'a b c d e f g h i j k l m n o p q r s t u v w x y z' page = 26",
            "word 0..25 1 = 4 4 4 4 4 3 4 4 2 2 4 2 6 4 4 4 4 3 4 3 4 4 6 4 4 4",
            "widen 97 0 = INVALID_ARGUMENT", "widen 97 10 = INVALID_ARGUMENT", "word 0 1 = 4",
            "widen 97 1 = 4", "word 0 1 = 1", "widen 97 9 = 1", "word 0 1 = 9");
        EDGES.edge("the width of a word is the sum of the widths of its letters",
            "'i imf aaaaaaaaaaaa' page = 3", "word 0..2 1 = 2 11 48",
            "widen 97 9", "word 0..2 1 = 2 11 108", "widen 97 1", "word 0..2 1 = 2 11 12");
    }

    private static void page() {
        EDGES.edge("at most 40 words, numbered from 0, at first none",
            "count 0 = 0", "word 0 0 = INVALID_ARGUMENT",
            "'" + "ab ".repeat(39) + "abc' page = 40", "count 0 = 40",
            "word 0 0 = 2", "word 39 0 = 3", "word 40 0 = INVALID_ARGUMENT", "word -1 0 = INVALID_ARGUMENT",
            "'" + "a ".repeat(40) + "a' page = NOT_POSSIBLE", "count 0 = 40", "word 39 0 = 3");
        EDGES.edge("words of 1 to 12 letters",
            "'a bcdefghijklm' page = 2", "word 0..1 0 = 1 12", "letter 1 11 = 109",
            "'bcdefghijklmn' page = NOT_POSSIBLE", "word 0..1 0 = 1 12",
            "'' page = 0", "count 0 = 0", "word 0 0 = INVALID_ARGUMENT");
    }

    private static void names() {
        EDGES.edge("at most 8 names, numbered from 0",
            "count 3 = 0", "form 0 -1 0 = INVALID_ARGUMENT",
            "'a' name = 0", "'b' name = 1", "'c' name = 2", "'d' name = 3",
            "'e' name = 4", "'f' name = 5", "'g' name = 6", "count 3 = 7", "'h' name = 7",
            "count 3 = 8", "form 0..7 -1 0 = 1", "form 8 -1 0 = INVALID_ARGUMENT", "form -1 -1 0 = INVALID_ARGUMENT",
            "'i' name = LIMIT_REACHED", "count 3 = 8",
            "dropName 0 = 7", "name = 7", "form 7 -1 1 = 2", "name = NOT_POSSIBLE");
        EDGES.edge("names of 1 to 8 letters",
            "'' name = NOT_POSSIBLE", "'a' name = 0", "'abcdefgh' name = 1",
            "'abcdefghi' name = NOT_POSSIBLE", "form 0..1 -1 0 = 1 8", "count 3 = 2");
        EDGES.edge("no two names alike",
            "'ab' name = 0", "name = NOT_POSSIBLE", "'abc' name = 1", "'a' name = 2", "'bc' name = 3", "'ac' name = 4",
            "'ab' name = NOT_POSSIBLE", "'abc' name = NOT_POSSIBLE", "'ac' name = NOT_POSSIBLE", "count 3 = 5",
            "dropName 1 = 4", "'abc' name = 4");
        EDGES.edge("a name may be like a form of another one",
            "'ab' name = 0", "'c' ending = 0", "'abc' name = 1", "count 5 = 4", "'abc' name = NOT_POSSIBLE");
    }

    private static void endings() {
        EDGES.edge("at most 4 endings, numbered from 0",
            "'z' name = 0", "count 4 = 0", "form 0 0 0 = INVALID_ARGUMENT",
            "'a' ending = 0", "'b' ending = 1", "'c' ending = 2", "count 4 = 3", "'d' ending = 3",
            "count 4 = 4", "form 0 0..3 0 = 2", "form 0 4 0 = INVALID_ARGUMENT", "form 0 -2 0 = INVALID_ARGUMENT",
            "'i' ending = LIMIT_REACHED", "count 4 = 4",
            "dropEnding 0 = 3", "ending = 3", "form 0 3 1 = 6", "ending = NOT_POSSIBLE");
        EDGES.edge("endings of 1 to 3 letters",
            "'' ending = NOT_POSSIBLE", "'s' ending = 0", "'ing' ending = 1",
            "'ings' ending = NOT_POSSIBLE", "count 4 = 2", "'a' name = 0", "form 0 -1..1 0 = 1 2 4");
        EDGES.edge("no two endings alike",
            "'es' ending = 0", "ending = NOT_POSSIBLE", "'esa' ending = 1", "'e' ending = 2",
            "'es' ending = NOT_POSSIBLE", "'esa' ending = NOT_POSSIBLE", "'e' ending = NOT_POSSIBLE", "count 4 = 3",
            "dropEnding 0 = 2", "'es' ending = 2");
        EDGES.edge("a name and an ending may be alike",
            "'s' name = 0", "ending = 0", "'s ss sss' page = 3", "word 0..2 3 = 1 1 0", "word 0..1 5 = -1 0");
    }

    private static void forms() {
        EDGES.edge("the name itself, and the name with each ending behind it",
            "count 5 = 0", "'s' ending = 0", "count 5 = 0", "'ann' name = 0", "count 5 = 2",
            "'bo' name = 1", "count 5 = 4", "form 0 -1..0 0 = 3 4", "form 1 -1..0 0 = 2 3",
            "form 0 -2 0 = INVALID_ARGUMENT", "form 0 1 0 = INVALID_ARGUMENT",
            "dropEnding 0 = 0", "count 5 = 2", "form 0 0 0 = INVALID_ARGUMENT", "form 0 -1 0 = 3",
            "dropName 0 = 1", "count 5 = 1", "dropName 0 = 0", "count 5 = 0");
        EDGES.edge("the most forms",
            "'a' name", "'b' name", "'c' name", "'d' name", "'e' name", "'f' name", "'g' name", "'h' name",
            "'i' ending", "'jj' ending", "'kkk' ending", "'l' ending",
            "count 5 = 40", "form 0 -1..3 0 = 1 2 3 4 2", "form 7 -1..3 0 = 1 2 3 4 2", "form 5 -1..3 1 = 3 5 7 15 5",
            "form 8 -1 0 = INVALID_ARGUMENT", "form 7 4 0 = INVALID_ARGUMENT",
            "'hl hkkk h' page = 3", "word 0..2 4 = 7", "word 0..2 5 = 3 2 -1");
    }

    private static void hiddenWords() {
        EDGES.edge("a word is hidden if it is a form of a name",
            "'ann' name", "'s' ending", "'an ann anns annss ans s nn anna sann bnn anm annt' page = 12",
            "word 0..11 3 = 0 1 1 0 0 0 0 0 0 0 0 0", "count 1 = 2");
        EDGES.edge("the longest form",
            "'abcdefgh' name", "'ijk' ending",
            "'abcdefghijk abcdefghijkl abcdefghij' page = 3", "word 0..2 3 = 1 0 0",
            "form 0 0 0 = 11", "form 0 -1..0 3 = 0 1");
        EDGES.edge("the first such form",
            "'ab' name", "'a' name", "'abc' name", "'c' ending", "'bc' ending", "'abc' page = 1",
            "word 0 4..5 = 0 0", "form 0..2 -1..1 3 = 0 1 0 0 0 0 0 0 0",
            "dropName 0 = 2", "word 0 4..5 = 0 1", "form 0..1 -1..1 3 = 0 0 1 0 0 0",
            "dropName 0 = 1", "word 0 4..5 = 0 -1", "form 0 -1..1 3 = 1 0 0",
            "dropName 0 = 0", "word 0 3..5 = 0 NOT_FOUND NOT_FOUND");
    }

    private static void ownAndSteps() {
        EDGES.edge("own, at first",
            "count 6 = 0", "'ilm' name", "'s' ending", "'ilm ilms' page", "word 0..1 2 = 10 14",
            "form 0 -1..0 2 = 10 14");
        EDGES.edge("by steps, at first 10",
            "count 7 = 10", "'fm' name", "'aai' name", "'aaf' name", "'fm aai aaf' page",
            "word 0..2 1 = 9 10 11", "set 0 1", "word 0..2 2 = 10 10 20", "form 0..2 -1 2 = 10 10 20");
        EDGES.edge("the least multiple of the step that is at least w",
            "'aa' name", "'aa' page", "set 0 1",
            "set 1 1", "word 0 2 = 8", "set 1 3", "word 0 2 = 9", "set 1 4", "word 0 2 = 8",
            "set 1 5", "word 0 2 = 10", "set 1 7", "word 0 2 = 14", "set 1 8", "word 0 2 = 8",
            "set 1 9", "word 0 2 = 9", "set 1 49", "word 0 2 = 49", "set 1 50", "word 0 2 = 50");
        EDGES.edge("the step, 1 to 50",
            "set 1 0 = INVALID_ARGUMENT", "set 1 1 = 10", "set 1 50 = 1", "set 1 51 = INVALID_ARGUMENT", "count 7 = 50");
        EDGES.edge("the widest bars",
            "'aaaaaaaa' name", "'aaa' ending", "widen 97 9", "'aaaaaaaaaaa' page", "word 0 2 = 99",
            "set 0 1", "set 1 33", "word 0 2 = 99", "set 1 34", "word 0 2 = 102",
            "set 1 49", "word 0 2 = 147", "set 1 50", "word 0 2 = 100", "under 100 = 1");
        EDGES.edge("the narrowest bars",
            "'a' name", "widen 97 1", "'a' page", "word 0 2 = 1", "set 0 1", "set 1 1", "word 0 2 = 1",
            "set 1 2", "word 0 2 = 2", "set 1 50", "word 0 2 = 50", "set 0 2", "word 0 2 = 1", "set 0 3", "word 0 2 = 1");
    }

    private static void groups() {
        EDGES.edge("groups of at first 3, the last one with fewer belongs to the one before, if there is one",
            "count 8 = 3", "set 0 2",
            "'i' name", "form 0 -1 2 = 2",
            "'f' name", "form 0..1 -1 2 = 3 3",
            "'a' name", "form 0..2 -1 2 = 4 4 4",
            "'m' name", "form 0..3 -1 2 = 6 6 6 6",
            "'aa' name", "form 0..4 -1 2 = 8 8 8 8 8",
            "'mm' name", "form 0..5 -1 2 = 4 4 4 12 12 12",
            "'mmm' name", "form 0..6 -1 2 = 4 4 4 18 18 18 18",
            "'mmmm' name", "form 0..7 -1 2 = 4 4 4 24 24 24 24 24");
        EDGES.edge("the group, 1 to 8",
            "'i' name", "'f' name", "'a' name", "'m' name", "'aa' name", "'mm' name", "'mmm' name", "'mmmm' name",
            "set 0 2", "set 2 0 = INVALID_ARGUMENT", "set 2 9 = INVALID_ARGUMENT",
            "set 2 1 = 3", "form 0..7 -1 2 = 2 3 4 6 8 12 18 24",
            "set 2 2 = 1", "form 0..7 -1 2 = 3 3 6 6 12 12 24 24",
            "set 2 4 = 2", "form 0..7 -1 2 = 6 6 6 6 24 24 24 24",
            "set 2 5 = 4", "form 0..7 -1 2 = 24",
            "set 2 7 = 5", "form 0..7 -1 2 = 24",
            "set 2 8 = 7", "form 0..7 -1 2 = 24",
            "'x' ending", "form 0..7 -1 2 = 8 8 8 8 8 28 28 28", "form 0..7 0 2 = 8 8 8 28 28 28 28 28");
        EDGES.edge("a group of 8 and 7 forms behind it",
            "'i' name", "'f' name", "'a' name", "'m' name", "'aa' name", "'x' ending", "'xx' ending",
            "set 0 2", "set 2 8", "form 0..4 -1..1 2 = 16");
        EDGES.edge("40 forms in groups of 8 and of 7",
            "'i' name", "'f' name", "'a' name", "'m' name", "'aa' name", "'mm' name", "'mmm' name", "'mmmm' name",
            "'i' ending", "'aa' ending", "'mmm' ending", "'mm' ending", "set 0 2", "set 2 8",
            // in order: 2 3 4 4 5 6 6 8 | 8 10 10 11 12 12 14 14 | 14 15 16 16 18 18 20 20 |
            // 20 20 21 22 24 24 24 26 | 26 26 30 30 32 36 36 42
            "form 0 -1..3 2 = 8 8 14 20 14", "form 1 -1..3 2 = 8 8 14 26 20", "form 4 -1..3 2 = 14 14 20 26 20",
            "form 7 -1..3 2 = 26 42 42 42 42",
            "form 5 -1..3 2 = 14 20 26 42 26",
            // 2 3 4 4 5 6 6 | 8 8 10 10 11 12 12 | 14 14 14 15 16 16 18 | 18 20 20 20 20 21 22 |
            // 24 24 24 26 26 26 30 and the 30 32 36 36 42 that are fewer
            "set 2 7", "form 0 -1..3 2 = 6 6 12 22 18", "form 3 -1..3 2 = 6 12 18 42 18", "form 7 -1..3 2 = 42");
    }

    private static void orderOfForms() {
        EDGES.edge("forms of one width by the numbers of their names",
            "'m' name", "'d' name", "'a' name", "'w' name", "'b' name", "'c' name", "set 0 2",
            "form 0..5 -1 2 = 6 4 4 6 4 6");
        EDGES.edge("those of one name by their endings",
            "'i' name", "'mm' name", "'a' ending", "'b' ending", "'c' ending", "set 0 2",
            "form 0 -1..2 2 = 6 6 6 16", "form 1 -1..2 2 = 16");
        EDGES.edge("by names first, by endings then",
            "'i' name", "'aai' name", "'aa' ending", "set 0 2", "set 2 2",
            "form 0 -1..0 2 = 10 10", "form 1 -1..0 2 = 18 18");
    }

    private static void allAlikeAndShown() {
        EDGES.edge("all alike: the greatest width of all forms of all names",
            "'il' name", "'mm' name", "'s' ending", "'il the' page", "set 0 3", "word 0..1 2 = 16 11",
            "form 0 -1..0 2 = 16", "form 1 -1..0 2 = 16",
            "dropEnding 0", "word 0..1 2 = 12 11", "dropName 1", "word 0..1 2 = 4 11",
            "widen 105 9", "word 0..1 2 = 11 11");
        EDGES.edge("the shown width is that of the bar, or, if it is not hidden, its own",
            "'aa' name", "'mm' name", "'aa the' page",
            "word 0..1 2 = 8 11", "set 0 1", "word 0..1 2 = 10 11", "set 0 2", "word 0..1 2 = 12 11",
            "set 0 3", "word 0..1 2 = 12 11", "dropName 0", "word 0..1 2 = 8 11");
    }

    private static void lineWidths() {
        EDGES.edge("the gap, 1 to 9, at first 3, and the line width, 20 to 200, at first 80",
            "count 9..10 = 3 80", "set 3 0 = INVALID_ARGUMENT", "set 3 10 = INVALID_ARGUMENT",
            "set 4 19 = INVALID_ARGUMENT", "set 4 201 = INVALID_ARGUMENT", "count 9..10 = 3 80",
            "set 3 1 = 3", "set 3 9 = 1", "set 4 20 = 80", "set 4 200 = 20", "count 9..10 = 9 200");
        EDGES.edge("together at most as wide as the line width",
            "set 4 20", "'aa fm' page", "count 2 = 1", "line 0 2..3 = 20 0",
            "'aa aai' page", "count 2 = 2", "line 0 2..3 = 8 12", "line 1 2..3 = 10 10",
            "'aa ff' page", "count 2 = 1", "line 0 2..3 = 17 3");
        EDGES.edge("a gap between two of them",
            "set 4 20", "'i i i i i' page", "line 0 1..2 = 4 17", "line 1 1..2 = 1 2", "count 2 = 2",
            "set 3 9", "line 0 1..2 = 2 13", "line 1 1..2 = 2 13", "line 2 1..2 = 1 2", "count 2 = 3",
            "set 3 1", "line 0 1..2 = 5 14", "count 2 = 1",
            "'a a a a' page", "line 0 1..2 = 4 19", "'a a a e i' page", "line 0 1..2 = 4 19", "count 2 = 2",
            "'a a a o' page", "widen 111 5", "line 0 2..3 = 20 0", "widen 111 6", "line 0 1..2 = 3 14", "count 2 = 2");
        EDGES.edge("at first a line of 80",
            "'aaaaaaaaaaaa aaaaafrt' page", "line 0 2..3 = 80 0", "count 2 = 1",
            "'aaaaaaaaaaaa aaaaaaai' page", "line 0 2..3 = 48 32", "count 2 = 2");
        EDGES.edge("the shown widths flow",
            "'aa' name", "set 4 20", "'aa fm' page", "count 2 = 1", "set 0 1", "count 2 = 2", "set 1 8", "count 2 = 1",
            "set 1 9", "count 2 = 2");
    }

    private static void wideWords() {
        EDGES.edge("a word comes into the line if it is empty; a word that is too wide has a line alone",
            "set 4 20",
            "'mmmi' page", "count 2 = 1", "line 0 0..4 = 0 1 20 0 0",
            "'mmmi i' page", "count 2 = 2", "word 0..1 6 = 0 1",
            "'mmmf' page", "count 2 = 1", "line 0 0..4 = 0 1 21 0 0",
            "'mmmm a' page", "count 2 = 2", "word 0..1 6 = 0 1", "word 0..1 7 = 0 0",
            "'a mmmm' page", "count 2 = 2", "word 0..1 6 = 0 1", "line 1 0..4 = 1 1 24 0 0",
            "'mmmm mmmm' page", "count 2 = 2", "word 0..1 6 = 0 1",
            "'a mmmm a a' page", "count 2 = 3", "word 0..3 6 = 0 1 2 2", "word 0..3 7 = 0 0 0 7");
        EDGES.edge("a bar that is too wide has a line alone",
            "'aa' name", "set 4 20", "set 0 1", "set 1 50", "'i aa i' page",
            "count 2 = 3", "word 0..2 6 = 0 1 2", "line 1 0..4 = 1 1 50 0 1", "set 1 21", "count 2 = 3",
            "line 1 2..3 = 21 0", "set 1 20", "line 1 2..3 = 20 0", "count 2 = 3");
        EDGES.edge("the widest word in the narrowest line",
            "'mmmmmmmmmmmm' page", "widen 109 9", "set 4 20", "line 0 0..4 = 0 1 108 0 0", "widthAgain 0 = 108");
    }

    private static void manyLines() {
        EDGES.edge("no words, no lines",
            "count 2 = 0", "line 0 0..4 = INVALID_ARGUMENT", "widthAgain 0 = INVALID_ARGUMENT",
            "'a' page", "count 2 = 1", "line 0 0..4 = 0 1 4 76 0", "line 1 0 = INVALID_ARGUMENT",
            "'' page", "count 2 = 0", "line 0 0 = INVALID_ARGUMENT");
        EDGES.edge("40 words in one line",
            "set 3 1", "set 4 200", "'if" + " a".repeat(39) + "' page = 40",
            "count 2 = 1", "line 0 0..4 = 0 40 200 0 0", "word 39 6..7 = 0 196", "widthAgain 0 = 200",
            "'m" + " a".repeat(39) + "' page = 40",
            "count 2 = 2", "line 0 0..4 = 0 39 196 4 0", "line 1 0..4 = 39 1 4 196 0", "word 39 6..7 = 1 0");
        EDGES.edge("40 words in 40 lines",
            "set 4 20", "'" + "mmm ".repeat(39) + "mmm' page = 40",
            "count 2 = 40", "line 0 0..4 = 0 1 18 2 0", "line 39 0..4 = 39 1 18 2 0", "widthAgain 39 = 18",
            "word 39 6..7 = 39 0", "line 40 0..4 = INVALID_ARGUMENT", "widthAgain 40 = INVALID_ARGUMENT");
    }

    private static void places() {
        EDGES.edge("the place: the shown widths ahead in its line and the gaps behind them",
            "'aa the i' page", "word 0..2 7 = 0 11 25", "set 3 9", "word 0..2 7 = 0 17 37",
            "set 3 1", "word 0..2 7 = 0 9 21", "set 3 3", "'aa' name", "set 0 1", "word 0..2 7 = 0 13 27",
            "set 4 23", "word 0..2 6 = 0 1 1", "word 0..2 7 = 0 0 14");
    }

    private static void guessing() {
        EDGES.edge("a name may be under a bar, if one of its forms would have a bar of the same width",
            "'aa' name", "'il' name", "'b' ending", "'aa ilb aab il' page",
            "word 0..3 8 = 3 3 1 2", "word 0..3 9 = 2 2 1 1",
            "under 3..5 = 0 2 0", "under 7..9 = 0 3 0", "under 12 = 1");
        EDGES.edge("in the present mode",
            "'aa' name", "'il' name", "'b' ending", "'aa' page",
            "set 0 1", "under 8 = 0", "under 10 = 3", "under 20 = 1", "word 0 8 = 3",
            "set 0 2", "under 10 = 0", "under 12 = 3", "under 8 = 0", "set 2 2", "under 8 = 3", "under 12 = 3",
            "set 0 3", "under 8 = 0", "under 12 = 3");
        EDGES.edge("without a name, with eight",
            "under 0..30 = 0", "'a' name", "under 4 = 1", "'b' name", "'c' name", "'d' name", "'e' name", "'g' name",
            "'h' name", "under 4 = 127", "'k' name", "under 4 = 255", "'k' page", "word 0 8..9 = 255 8");
        EDGES.edge("the gap: the width of the bar minus that of the form",
            "'aa' name", "'aa aa' page", "count 13 = 0", "guess 0 0 1 = 0", "set 0 1", "count 13 = 4", "guess 0 0 1 = 2",
            "set 1 50", "count 13 = 84", "guess 0 0 1 = 42", "set 1 8", "count 13 = 0", "guess 0 0 1 = 0");
    }

    private static void betrayed() {
        EDGES.edge("a bar is betrayed if just one name may be under it",
            "count 11 = 0", "'aa' name", "'i' ending", "'j' ending", "count 11 = 0",
            "'aai aaj aa aa the' page", "word 0..3 9 = 1", "count 11 = 4",
            "'bb' name", "word 0..3 9 = 2", "count 11 = 0",
            "widen 98 5", "count 11 = 2", "widen 98 6", "count 11 = 4",
            "'cc' name", "count 11 = 0", "dropName 0", "count 11 = 0", "dropName 0", "count 11 = 0");
    }

    private static void samePage() {
        EDGES.edge("for each word of the page that is a form of one of both",
            "'aa' name", "'ab' name", "'il' name", "same 0..2 0..2 = 1",
            "'the' page", "same 0..2 0..2 = 1",
            "'aa' page", "same 0..2 0..2 = 1 1 0 1 1 1 0 1 1",
            "'aa the ab' page", "same 0..2 0..2 = 1 1 0 1 1 0 0 0 1");
        EDGES.edge("the bar of the form of the other one with the same ending",
            "'aa' name", "'il' name", "'s' ending", "'mm' ending", "'aas' page", "set 0 1",
            "same 0 1 = 0", "'aa' page", "same 0 1 = 1", "'aamm' page", "same 0 1 = 1", "'aamm aas' page", "same 0 1 = 0",
            "set 1 12", "same 0 1 = 1", "'aas aa' page", "same 0 1 = 1", "set 1 8", "same 0 1 = 0");
        EDGES.edge("as the hidden word that it is",
            // ill is il with l; as ill itself it would tell the last two names apart
            "'il' name", "'ill' name", "'aa' name", "'l' ending", "'ill' page", "word 0 4..5 = 0 0",
            "same 1 2 = 1", "same 0 1 = 0", "dropEnding 0", "word 0 4..5 = 1 -1", "same 1 2 = 0", "same 0 2 = 1");
    }

    private static void changes() {
        EDGES.edge("the changes are the calls that return no error",
            "count 15 = 0", "'a' name = 0", "count 15 = 1", "'s' ending = 0", "count 15 = 2", "'a' page = 1", "count 15 = 3",
            "widen 97 5 = 4", "count 15 = 4", "undo = 3", "set 1 9 = 10", "count 15 = 4",
            "undo = 3", "dropName 0 = 0", "count 15 = 4", "undo = 3", "dropEnding 0 = 0", "count 15 = 4", "undo = 3");
        EDGES.edge("also those that leave all as it is",
            "page = 0", "count 15 = 1", "page = 0", "count 15 = 2", "set 0 0 = 0", "count 15 = 3", "widen 97 4 = 4", "count 15 = 4",
            "undo = 3", "undo = 2", "undo = 1", "undo = 0");
        EDGES.edge("those that return an error are none",
            "name = NOT_POSSIBLE", "ending = NOT_POSSIBLE", "dropName 0 = INVALID_ARGUMENT", "dropEnding 0 = INVALID_ARGUMENT",
            "widen 97 0 = INVALID_ARGUMENT", "set 0 4 = INVALID_ARGUMENT", "' ' page = NOT_POSSIBLE",
            "count 15 = 0", "undo = NOT_POSSIBLE");
        EDGES.edge("all others are none",
            "'a b'", "count 15 = 0", "fault 0 = NOT_FOUND", "clearText = 3", "under 4 = 0", "stepFor 1 = 1", "modeFor = 0",
            "count 15 = 0", "'a' name", "page", "word 0 0", "line 0 0", "form 0 -1 0", "guess 0 0 0", "same 0 0", "widthAgain 0",
            "stepFor 1 = 1", "modeFor = NOT_FOUND", "count 15 = 2", "undo = 1", "count 15 = 1");
    }

    private static void history() {
        EDGES.edge("at most 4 states, full",
            "set 1 1..4 = 10 1 2 3", "count 15 = 4",
            "undo = 3", "count 7 = 3", "undo = 2", "count 7 = 2", "undo = 1", "count 7 = 1", "undo = 0", "count 7 = 10",
            "undo = NOT_POSSIBLE", "count 7 = 10", "count 15 = 0");
        EDGES.edge("if there are 5 states then, the oldest one is dropped",
            "set 1 1..5 = 10 1 2 3 4", "count 15 = 4",
            "undo = 3", "count 7 = 4", "undo = 2", "count 7 = 3", "undo = 1", "count 7 = 2", "undo = 0", "count 7 = 1",
            "undo = NOT_POSSIBLE", "count 7 = 1", "count 15 = 0");
        EDGES.edge("many are dropped",
            "set 1 1..23", "count 15 = 4", "undo = 3", "undo = 2", "set 1 40 = 21", "count 15 = 3",
            "undo = 2", "count 7 = 21", "undo = 1", "count 7 = 20", "undo = 0", "count 7 = 19", "undo = NOT_POSSIBLE");
        EDGES.edge("everything before it but the text",
            "'ann' name = 0", "'bobo' name = 1", "undo = 1", "count 16 = 4", "name = 1",
            "'the ann' page = 2", "type 97 = 8", "undo = 2", "count 16 = 8", "count 0 = 0", "page = 2", "letter 1 3 = 97",
            "clearText = 8", "undo = 2", "count 16 = 0");
    }

    private static void faultsOfCharactersAndBlanks() {
        StringBuilder signs = new StringBuilder();
        for (char c = 33; c <= 126; c++) {
            if (c < 'a' || c > 'z') {
                signs.append(c);
            }
        }
        String[] rows = new String[signs.length()];
        for (int i = 0; i < rows.length; i++) {
            rows[i] = "'a" + signs.charAt(i) + "' fault 0..1 = 1 1";
        }
        EDGES.edge("1 for a character that is neither a letter nor a blank", rows);
        EDGES.edge("1 at the beginning, in the middle, at the end",
            "'!' fault 0..1 = 0 1", "'!ab' fault 0..1 = 0 1", "'a!b' fault 0..1 = 1 1", "'ab!' fault 0..1 = 2 1",
            "'a !' fault 0..1 = 2 1", "'a! b' fault 0..1 = 1 1");
        EDGES.edge("2 for a blank at the beginning",
            "' ' fault 0..1 = 0 2", "' a' fault 0..1 = 0 2", "'  a' fault 0..1 = 0 2");
        EDGES.edge("2 for a blank behind a blank",
            "'a b' fault 0..1 = NOT_FOUND", "'a  b' fault 0..1 = 2 2", "'a   b' fault 0..1 = 2 2", "'a b  c' fault 0..1 = 4 2");
        EDGES.edge("2 for a blank at the end of the text: the last character, if it is a blank",
            "'a ' fault 0..1 = 1 2", "type 98 = 3", "fault 0..1 = NOT_FOUND", "type 32 = 4", "fault 0..1 = 3 2",
            // the first of the two stands neither at the end nor behind a blank
            "'a  ' fault 0..1 = 2 2", "'a b ' fault 0..1 = 3 2");
    }

    private static void faultsOfLettersAndWords() {
        EDGES.edge("3 for the 13th letter of a word",
            "'abcdefghijkl' fault 0..1 = NOT_FOUND", "type 97 = 13", "fault 0..1 = 12 3", "type 97 = 14", "fault 0..1 = 12 3",
            "'abcdefghijkl abcdefghijkl' fault 0..1 = NOT_FOUND", "type 97 = 26", "fault 0..1 = 25 3",
            "'ab abcdefghijklm ab' fault 0..1 = 15 3", "'abcdefghijkl m' fault 0..1 = NOT_FOUND");
        EDGES.edge("4 for the first letter of a 41st word",
            "'" + "a ".repeat(39) + "a' fault 0..1 = NOT_FOUND", "type 97 = 80", "fault 0..1 = NOT_FOUND",
            "type 32 = 81", "fault 0..1 = 80 2", "type 97 = 82", "fault 0..1 = 81 4", "type 98 = 83", "fault 0..1 = 81 4",
            "type 32 = 84", "fault 0..1 = 81 4", "page = NOT_POSSIBLE");
        EDGES.edge("an empty text has no fault, and no words",
            "fault 0..1 = NOT_FOUND", "page = 0", "count 0 = 0", "'a b' page = 2", "'' fault 0..1 = NOT_FOUND",
            "page = 0", "count 0 = 0");
    }

    private static void firstFault() {
        EDGES.edge("the first character that cannot stand where it stands",
            "'A B' fault 0..1 = 0 1", "'abcdefghijklmA' fault 0..1 = 12 3", "'abcdefghijklAm' fault 0..1 = 12 1",
            "'a  A' fault 0..1 = 2 2", "'aA  ' fault 0..1 = 1 1", "' abcdefghijklm' fault 0..1 = 0 2",
            "'abcdefghijklm ' fault 0..1 = 12 3");
        EDGES.edge("behind 40 words",
            "'" + "a ".repeat(40) + "' fault 0..1 = 79 2", "type 32 = 81", "fault 0..1 = 80 2",
            "type 97 = 82", "fault 0..1 = 80 2", "'" + "a ".repeat(40) + "!' fault 0..1 = 80 1");
        EDGES.edge("a 41st word of 13 letters",
            "'" + "a ".repeat(40) + "abcdefghijklm' fault 0..1 = 80 4");
        EDGES.edge("a 40th word of 13 letters",
            "'" + "a ".repeat(39) + "abcdefghijkl' fault 0..1 = NOT_FOUND", "type 97", "fault 0..1 = 90 3");
    }

    private static void invalidFirst() {
        EDGES.edge("INVALID_ARGUMENT rather than LIMIT_REACHED",
            "'" + "a".repeat(200) + "'", "type 31 = INVALID_ARGUMENT", "type 127 = INVALID_ARGUMENT",
            "type 32 = LIMIT_REACHED", "type 126 = LIMIT_REACHED");
        EDGES.edge("INVALID_ARGUMENT rather than NOT_POSSIBLE",
            "'ann' name", "'ann the' page",
            "letter 0 -1 = INVALID_ARGUMENT", "letter 0 0 = NOT_POSSIBLE",
            "guess 1 -1 0 = INVALID_ARGUMENT", "guess 1 0 -1 = INVALID_ARGUMENT", "guess 1 0 2 = INVALID_ARGUMENT",
            "guess 1 0 0..1 = NOT_POSSIBLE");
        EDGES.edge("INVALID_ARGUMENT rather than NOT_FOUND",
            "fault -1 = INVALID_ARGUMENT", "fault 2 = INVALID_ARGUMENT", "fault 0 = NOT_FOUND",
            "'ann' name", "'the ann' page", "word 0 10 = INVALID_ARGUMENT", "word 0 9 = NOT_FOUND",
            "letter 2 3 = INVALID_ARGUMENT", "letter 0 3 = NOT_FOUND",
            "guess 1 1 2 = INVALID_ARGUMENT", "guess 1 1 1 = NOT_FOUND",
            "stepFor 9 = INVALID_ARGUMENT", "stepFor 8 = NOT_FOUND");
    }

    private static void impossibleFirst() {
        EDGES.edge("NOT_POSSIBLE rather than LIMIT_REACHED, of names",
            "'a' name", "'b' name", "'c' name", "'d' name", "'e' name", "'f' name", "'g' name", "'h' name",
            "name = NOT_POSSIBLE", "'a' name = NOT_POSSIBLE", "'' name = NOT_POSSIBLE", "'abcdefghi' name = NOT_POSSIBLE",
            "'x y' name = NOT_POSSIBLE", "'X' name = NOT_POSSIBLE", "'abcdefgh' name = LIMIT_REACHED", "'x' name = LIMIT_REACHED");
        EDGES.edge("NOT_POSSIBLE rather than LIMIT_REACHED, of endings",
            "'a' ending", "'b' ending", "'c' ending", "'d' ending",
            "ending = NOT_POSSIBLE", "'a' ending = NOT_POSSIBLE", "'' ending = NOT_POSSIBLE", "'abcd' ending = NOT_POSSIBLE",
            "'x y' ending = NOT_POSSIBLE", "'X' ending = NOT_POSSIBLE", "'abc' ending = LIMIT_REACHED", "'x' ending = LIMIT_REACHED");
        EDGES.edge("NOT_POSSIBLE rather than NOT_FOUND",
            "'ann' name", "'ann the' page",
            "letter 0 2..3 = NOT_POSSIBLE", "letter 0 12 = NOT_POSSIBLE", "letter 0 greatest = NOT_POSSIBLE",
            "guess 1 1 0 = NOT_POSSIBLE", "guess 1 8 1 = NOT_POSSIBLE", "guess 1 greatest 0 = NOT_POSSIBLE");
    }

    private static void numbersOfNone() {
        EDGES.edge("no word, name, ending or line with a certain number is INVALID_ARGUMENT",
            "'ann' name", "'s' ending", "'the anns' page",
            "word -1 0 = INVALID_ARGUMENT", "word 2 0 = INVALID_ARGUMENT",
            "letter -1 0 = INVALID_ARGUMENT", "letter 2 0 = INVALID_ARGUMENT",
            "guess -1 0 0 = INVALID_ARGUMENT", "guess 2 0 0 = INVALID_ARGUMENT",
            "line -1 0 = INVALID_ARGUMENT", "line 1 0 = INVALID_ARGUMENT",
            "widthAgain -1 = INVALID_ARGUMENT", "widthAgain 1 = INVALID_ARGUMENT",
            "form -1 -1 0 = INVALID_ARGUMENT", "form 1 -1 0 = INVALID_ARGUMENT",
            "form 0 -2 0 = INVALID_ARGUMENT", "form 0 1 0 = INVALID_ARGUMENT",
            "same -1 0 = INVALID_ARGUMENT", "same 0 -1 = INVALID_ARGUMENT",
            "same 1 0 = INVALID_ARGUMENT", "same 0 1 = INVALID_ARGUMENT",
            "dropName -1 = INVALID_ARGUMENT", "dropName 1 = INVALID_ARGUMENT",
            "dropEnding -1 = INVALID_ARGUMENT", "dropEnding 1 = INVALID_ARGUMENT");
    }
}
