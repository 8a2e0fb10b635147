/** The edges that the promises 13 to 16 name: words, letters and lines of the page. */
public final class PageEdgesTest {
    private static final Edges EDGES = new Edges();

    public static void main(String[] args) {
        numberOfWord();
        whatOfWord();
        endingOfWord();
        namesUnderWord();
        wordsOfFullPage();
        numberOfLetter();
        hiddenLetters();
        numberOfLine();
        whatOfLine();
        restOfLine();
        barsOfLine();
        widthAgain();
        EDGES.end();
    }

    private static void numberOfWord() {
        EDGES.edge("promise 13: number of the word",
            "word 0 0 = INVALID_ARGUMENT", "'ann the' page",
            "word -1 0 = INVALID_ARGUMENT", "word 0..1 0 = 3", "word 2 0 = INVALID_ARGUMENT", "word 40 0 = INVALID_ARGUMENT",
            "word least 0 = INVALID_ARGUMENT", "word greatest 0 = INVALID_ARGUMENT", "word 2 9 = INVALID_ARGUMENT",
            "word -1 9 = INVALID_ARGUMENT", "'' page", "word 0 0..9 = INVALID_ARGUMENT", "undo", "word 1 0 = 3");
    }

    private static void whatOfWord() {
        EDGES.edge("promise 13: what, 0 to 9",
            "'ann' name", "'the ann' page",
            "word 0..1 -1 = INVALID_ARGUMENT", "word 0..1 10 = INVALID_ARGUMENT",
            "word 0..1 least = INVALID_ARGUMENT", "word 0..1 greatest = INVALID_ARGUMENT",
            "word 0 0..9 = 3 11 11 0 NOT_FOUND NOT_FOUND 0 0 NOT_FOUND NOT_FOUND",
            "word 1 0..9 = 3 12 12 1 0 -1 0 14 1 1");
        EDGES.edge("promise 13: NOT_FOUND for 4, 5, 8 and 9 if it is not hidden",
            "'the' page", "word 0 4..5 = NOT_FOUND", "word 0 8..9 = NOT_FOUND", "word 0 6..7 = 0 0", "word 0 3 = 0",
            "'the' name", "word 0 3..5 = 1 0 -1", "word 0 8..9 = 1 1", "dropName 0", "word 0 4..5 = NOT_FOUND", "word 0 8..9 = NOT_FOUND");
    }

    private static void endingOfWord() {
        EDGES.edge("promise 13: -1 for 5 if it is the name itself",
            "'a' name", "'b' name", "'s' ending", "'es' ending", "'u' ending", "'ing' ending",
            "'a as aes au aing b bs bes bu bing' page",
            "word 0..9 4 = 0 0 0 0 0 1 1 1 1 1", "word 0..9 5 = -1 0 1 2 3 -1 0 1 2 3");
    }

    private static void namesUnderWord() {
        EDGES.edge("promise 13: the names that may be under its bar, and how many these are",
            "'a' name", "'ii' name", "'m' name", "'e' name", "'i' ending", "'a ai m ii mi' page",
            // a 4 6, ii 4 6, m 6 8, e 4 6
            "word 0..4 8 = 11 15 15 11 4", "word 0..4 9 = 3 4 4 3 1",
            "set 0 1", "set 1 6", "word 0..4 8 = 15 15 15 15 4", "set 1 8", "word 0..4 8 = 15", "word 0..4 9 = 4");
        EDGES.edge("promise 13: the last name alone",
            "'a' name", "'aa' name", "'aaa' name", "'aaaa' name", "'aaaaa' name", "'aaaaaa' name", "'aaaaaaa' name",
            "'aaaaaaaa' name", "'aaaaaaaa a' page", "word 0..1 8 = 128 1", "word 0..1 9 = 1", "set 0 3", "word 0..1 8 = 255",
            "word 0..1 9 = 8");
    }

    private static void wordsOfFullPage() {
        EDGES.edge("promise 13: the 40th word",
            "'zz' name", "'" + "a ".repeat(39) + "zz' page = 40",
            "word 39 0..9 = 2 8 8 1 0 -1 3 42 1 1", "word 40 0..9 = INVALID_ARGUMENT",
            "word 38 0..9 = 1 4 4 0 NOT_FOUND NOT_FOUND 3 35 NOT_FOUND NOT_FOUND");
    }

    private static void numberOfLetter() {
        EDGES.edge("promise 14: 0 for the first one, and so on; NOT_FOUND if the word has not so many",
            "'a abcdefghijkl az' page",
            "letter 0 0..1 = 97 NOT_FOUND", "letter 1 0..12 = 97 98 99 100 101 102 103 104 105 106 107 108 NOT_FOUND",
            "letter 2 0..2 = 97 122 NOT_FOUND", "letter 2 greatest = NOT_FOUND", "letter 0 13 = NOT_FOUND");
        EDGES.edge("promise 14: INVALID_ARGUMENT if there is no such word or index is negative",
            "letter 0 0 = INVALID_ARGUMENT", "'the end' page",
            "letter -1 0 = INVALID_ARGUMENT", "letter 2 0 = INVALID_ARGUMENT", "letter least 0 = INVALID_ARGUMENT",
            "letter greatest 0 = INVALID_ARGUMENT", "letter 0 -1 = INVALID_ARGUMENT", "letter 1 least = INVALID_ARGUMENT",
            "letter 1 -1 = INVALID_ARGUMENT", "letter 2 3 = INVALID_ARGUMENT", "letter 1 2 = 100");
    }

    private static void hiddenLetters() {
        EDGES.edge("promise 14: NOT_POSSIBLE if it is hidden",
            "'ann' name", "'s' ending", "'ann anns annas' page",
            "letter 0 0..2 = NOT_POSSIBLE", "letter 0 3 = NOT_POSSIBLE", "letter 0 greatest = NOT_POSSIBLE",
            "letter 0 -1 = INVALID_ARGUMENT", "letter 1 3 = NOT_POSSIBLE", "letter 1 4 = NOT_POSSIBLE",
            "letter 2 4..5 = 115 NOT_FOUND", "dropEnding 0", "letter 1 3..4 = 115 NOT_FOUND", "letter 0 0 = NOT_POSSIBLE",
            "dropName 0", "letter 0 0 = 97", "undo", "letter 0 0 = NOT_POSSIBLE");
    }

    private static void numberOfLine() {
        EDGES.edge("promise 15: number of the line",
            "line 0 0 = INVALID_ARGUMENT", "set 4 20", "'mmm mmm' page", "count 2 = 2",
            "line -1 0..4 = INVALID_ARGUMENT", "line 2 0..4 = INVALID_ARGUMENT", "line 40 0 = INVALID_ARGUMENT",
            "line least 0 = INVALID_ARGUMENT", "line greatest 0 = INVALID_ARGUMENT",
            "line 0 0 = 0", "line 1 0 = 1", "set 4 200", "line 1 0 = INVALID_ARGUMENT", "line 0 1 = 2");
    }

    private static void whatOfLine() {
        EDGES.edge("promise 15: what, 0 to 4",
            "'the' page", "line 0 -1 = INVALID_ARGUMENT", "line 0 0..4 = 0 1 11 69 0", "line 0 5 = INVALID_ARGUMENT",
            "line 0 least = INVALID_ARGUMENT", "line 0 greatest = INVALID_ARGUMENT", "line 1 5 = INVALID_ARGUMENT");
        EDGES.edge("promise 15: its first word, its words, its width",
            "set 4 20", "'a e mmm i i i' page",
            // 4 and 4; 18; 2, 2 and 2, with gaps of 3
            "line 0 0..2 = 0 2 11", "line 1 0..2 = 2 1 18", "line 2 0..2 = 3 3 12", "line 3 0 = INVALID_ARGUMENT");
    }

    private static void restOfLine() {
        EDGES.edge("promise 15: what is left of the line width, 0 if it is too wide",
            "set 4 20", "'mmmi' page", "line 0 2..3 = 20 0", "'mmmf' page", "line 0 2..3 = 21 0",
            "'aaaif' page", "line 0 2..3 = 17 3", "'mmif' page", "line 0 2..3 = 17 3",
            "'aaaam' page", "line 0 2..3 = 22 0", "'mmaf' page", "line 0 2..3 = 19 1", "set 4 200", "line 0 3 = 181");
    }

    private static void barsOfLine() {
        EDGES.edge("promise 15: its bars",
            "'aa' name", "set 4 20", "'aa aa aa the aa' page",
            // 8 and 8; 8; 11; 8
            "count 2 = 4", "line 0..3 1 = 2 1 1 1", "line 0..3 4 = 2 1 0 1");
        EDGES.edge("promise 15: none of the lines beside it",
            "'aa' name", "set 4 20", "'aa the a aa aa' page",
            // 8; 11 and 4; 8 and 8
            "count 2 = 3", "line 0 4 = 1", "line 1 4 = 0", "line 2 4 = 2", "dropName 0", "line 0 4 = 0", "line 2 4 = 0");
    }

    private static void widthAgain() {
        EDGES.edge("promise 16: the place of its last word, and the shown width of this",
            "set 4 20", "'a e mmm i i i mmmm' page", "widthAgain 0..3 = 11 18 12 24", "line 0..3 2 = 11 18 12 24",
            "'i' name", "set 0 1", "set 1 9", "widthAgain 0..4 = 11 18 9 9 9", "line 0..4 2 = 11 18 9 9 9");
        EDGES.edge("promise 16: number of the line",
            "widthAgain 0 = INVALID_ARGUMENT", "'the' page", "widthAgain -1 = INVALID_ARGUMENT", "widthAgain 0 = 11",
            "widthAgain 1 = INVALID_ARGUMENT", "widthAgain 40 = INVALID_ARGUMENT", "widthAgain least = INVALID_ARGUMENT",
            "widthAgain greatest = INVALID_ARGUMENT", "undo", "widthAgain 0 = INVALID_ARGUMENT");
    }
}
