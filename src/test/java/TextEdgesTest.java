/** The edges that the promises 1 to 9 name: a new object, texts, pages, names and endings. */
public final class TextEdgesTest {
    private static final Edges EDGES = new Edges();

    public static void main(String[] args) {
        newObject();
        type();
        clearText();
        fault();
        page();
        refusedPage();
        name();
        ending();
        dropName();
        dropEnding();
        EDGES.end();
    }

    private static void newObject() {
        EDGES.edge("promise 1: a page without words, without names and endings",
            "count 0..16 = 0 0 0 0 0 0 0 10 3 3 80 0 0 0 0 0 0",
            "word 0 0..9 = INVALID_ARGUMENT", "letter 0 0 = INVALID_ARGUMENT", "line 0 0..4 = INVALID_ARGUMENT",
            "widthAgain 0 = INVALID_ARGUMENT", "form 0 -1 0..3 = INVALID_ARGUMENT", "guess 0 0 0..1 = INVALID_ARGUMENT",
            "same 0 0 = INVALID_ARGUMENT", "dropName 0 = INVALID_ARGUMENT", "dropEnding 0 = INVALID_ARGUMENT",
            "under 0..150 = 0", "under 500 = 0", "stepFor 1..8 = 1", "modeFor = 0", "undo = NOT_POSSIBLE",
            "fault 0..1 = NOT_FOUND", "name = NOT_POSSIBLE", "ending = NOT_POSSIBLE", "clearText = 0", "page = 0");
    }

    private static void type() {
        EDGES.edge("promise 2: its code, 32 to 126",
            "type 31 = INVALID_ARGUMENT", "type 32 = 1", "type 33 = 2", "type 125 = 3", "type 126 = 4",
            "type 127 = INVALID_ARGUMENT", "type 0 = INVALID_ARGUMENT", "type -1 = INVALID_ARGUMENT",
            "type -32 = INVALID_ARGUMENT", "type 353 = INVALID_ARGUMENT", "type 65633 = INVALID_ARGUMENT",
            "type least = INVALID_ARGUMENT", "type greatest = INVALID_ARGUMENT", "count 16 = 4");
        EDGES.edge("promise 2: LIMIT_REACHED if the text has 200 characters",
            "'" + "ab ".repeat(66) + "'", "count 16 = 198", "type 99 = 199", "type 100 = 200",
            "type 101 = LIMIT_REACHED", "type 32 = LIMIT_REACHED", "type 126 = LIMIT_REACHED",
            "type 31 = INVALID_ARGUMENT", "type 127 = INVALID_ARGUMENT", "count 16 = 200",
            "clearText = 200", "type 101 = 1");
    }

    private static void clearText() {
        EDGES.edge("promise 3: empties the text, returns the length it had",
            "clearText = 0", "type 97 = 1", "clearText = 1", "clearText = 0", "count 16 = 0", "type 98 = 1", "name = 0",
            "page = 1", "'a b!'", "clearText = 4", "fault 0..1 = NOT_FOUND",
            "count 0 = 1", "count 3 = 1", "count 15 = 2", "word 0 3 = 1");
        EDGES.edge("promise 3: of a full text", "'" + "a".repeat(200) + "'", "clearText = 200", "count 16 = 0");
    }

    private static void fault() {
        EDGES.edge("promise 4: 0 its index, 1 its reason",
            "'ab '", "fault -1 = INVALID_ARGUMENT", "fault 0 = 2", "fault 1 = 2", "fault 2 = INVALID_ARGUMENT",
            "fault least = INVALID_ARGUMENT", "fault greatest = INVALID_ARGUMENT");
        EDGES.edge("promise 4: NOT_FOUND if the text has no fault",
            "fault 0 = NOT_FOUND", "fault 1 = NOT_FOUND", "fault -1 = INVALID_ARGUMENT", "fault 2 = INVALID_ARGUMENT",
            "'a' fault 0..1 = NOT_FOUND", "'a b' fault 0..1 = NOT_FOUND");
        EDGES.edge("promise 4: a fault at the last of 200 characters",
            // 15 words of 12 letters, and a blank behind each, are 195 characters
            "'" + "abcdefghijkl ".repeat(15) + "abcd' fault 0..1 = NOT_FOUND", "type 32 = 200", "fault 0..1 = 199 2",
            "'" + "abcdefghijkl ".repeat(15) + "abcd!' fault 0..1 = 199 1");
        EDGES.edge("promise 4: 200 characters without a fault",
            "'" + "abcdefghijkl ".repeat(15) + "abcde'", "count 16 = 200", "fault 0..1 = NOT_FOUND", "page = 16", "word 15 0 = 5");
    }

    private static void page() {
        EDGES.edge("promise 5: makes the words of the text those of the page; the text stays",
            "'one two three' page = 3", "count 16 = 13", "word 0..2 0 = 3 3 5", "letter 1 0..2 = 116 119 111",
            "page = 3", "count 0 = 3", "count 15 = 2",
            "'ab' page = 1", "word 0 0 = 2", "letter 0 0..1 = 97 98", "letter 0 2 = NOT_FOUND", "word 1 0 = INVALID_ARGUMENT",
            "clearText = 2", "count 0 = 1", "page = 0", "count 0 = 0");
        EDGES.edge("promise 5: of 1 and of 40 words",
            "'a' page = 1", "'" + "b ".repeat(39) + "c' page = 40", "letter 38..39 0 = 98 99", "count 16 = 79", "count 12 = 160");
    }

    private static void refusedPage() {
        EDGES.edge("promise 5: NOT_POSSIBLE if the text has a fault",
            "'one ann' page = 2", "'one!' page = NOT_POSSIBLE", "count 0 = 2", "' one' page = NOT_POSSIBLE",
            "'one  two' page = NOT_POSSIBLE", "'one ' page = NOT_POSSIBLE", "' ' page = NOT_POSSIBLE",
            "'abcdefghijklm' page = NOT_POSSIBLE", "count 16 = 13", "count 0 = 2", "count 15 = 1", "letter 1 0 = 97",
            "undo = 0", "count 0 = 0");
        EDGES.edge("promise 5: NOT_POSSIBLE of 41 words",
            "'one' page = 1", "'" + "a ".repeat(40) + "a' page = NOT_POSSIBLE", "count 0 = 1", "count 16 = 81", "letter 0 0 = 111");
    }

    private static void name() {
        EDGES.edge("promise 6: NOT_POSSIBLE if the text is not 1 to 8 letters a to z",
            "name = NOT_POSSIBLE", "'z' name = 0", "'abcdefgz' name = 1", "'abcdefgzi' name = NOT_POSSIBLE",
            "'`' name = NOT_POSSIBLE", "'{' name = NOT_POSSIBLE", "'A' name = NOT_POSSIBLE", "' ' name = NOT_POSSIBLE",
            "' a' name = NOT_POSSIBLE", "'a ' name = NOT_POSSIBLE", "'a b' name = NOT_POSSIBLE",
            "'!bcdefgh' name = NOT_POSSIBLE", "'abcdefg!' name = NOT_POSSIBLE", "'abcd!fgh' name = NOT_POSSIBLE",
            "'abcdefgh ' name = NOT_POSSIBLE", "count 3 = 2", "count 15 = 2");
        EDGES.edge("promise 6: of a full text",
            "'" + "a".repeat(200) + "'", "name = NOT_POSSIBLE", "ending = NOT_POSSIBLE", "count 16 = 200", "count 3..4 = 0 0");
        EDGES.edge("promise 6: or there is such a name; the text stays",
            "'ann' name = 0", "count 16 = 3", "name = NOT_POSSIBLE", "type 97 = 4", "name = 1", "name = NOT_POSSIBLE",
            "'ann' name = NOT_POSSIBLE", "undo = 1", "undo = 0", "name = 0", "count 16 = 3");
        EDGES.edge("promise 6: LIMIT_REACHED if there are 8",
            "'a' name = 0", "'b' name = 1", "'c' name = 2", "'d' name = 3", "'e' name = 4", "'f' name = 5", "'g' name = 6",
            "'ha' name = 7", "'h' name = LIMIT_REACHED", "'hab' name = LIMIT_REACHED", "'ha' name = NOT_POSSIBLE",
            "count 3 = 8", "count 15 = 4", "count 16 = 2", "undo = 3", "name = 7");
    }

    private static void ending() {
        EDGES.edge("promise 7: NOT_POSSIBLE if the text is not 1 to 3 letters a to z",
            "ending = NOT_POSSIBLE", "'z' ending = 0", "'abz' ending = 1", "'abzi' ending = NOT_POSSIBLE",
            "'`' ending = NOT_POSSIBLE", "'{' ending = NOT_POSSIBLE", "'A' ending = NOT_POSSIBLE", "' ' ending = NOT_POSSIBLE",
            "' a' ending = NOT_POSSIBLE", "'a ' ending = NOT_POSSIBLE", "'a b' ending = NOT_POSSIBLE",
            "'!bc' ending = NOT_POSSIBLE", "'ab!' ending = NOT_POSSIBLE", "'a!c' ending = NOT_POSSIBLE",
            "'abc ' ending = NOT_POSSIBLE", "count 4 = 2", "count 15 = 2");
        EDGES.edge("promise 7: or there is such an ending; the text stays",
            "'s' ending = 0", "count 16 = 1", "ending = NOT_POSSIBLE", "type 97 = 2", "ending = 1", "ending = NOT_POSSIBLE",
            "'s' ending = NOT_POSSIBLE", "undo = 1", "undo = 0", "ending = 0", "count 16 = 1");
        EDGES.edge("promise 7: LIMIT_REACHED if there are 4",
            "'a' ending = 0", "'b' ending = 1", "'c' ending = 2", "'da' ending = 3",
            "'d' ending = LIMIT_REACHED", "'dab' ending = LIMIT_REACHED", "'da' ending = NOT_POSSIBLE",
            "count 4 = 4", "count 15 = 4", "count 16 = 2", "undo = 3", "ending = 3");
    }

    private static void dropName() {
        EDGES.edge("promise 8: number of the name",
            "dropName 0 = INVALID_ARGUMENT", "'ann' name", "'bo' name", "'t' name",
            "dropName -1 = INVALID_ARGUMENT", "dropName 3 = INVALID_ARGUMENT", "dropName 8 = INVALID_ARGUMENT",
            "dropName least = INVALID_ARGUMENT", "dropName greatest = INVALID_ARGUMENT", "count 3 = 3", "count 15 = 3");
        EDGES.edge("promise 8: the numbers of the later ones decrease by 1",
            "'a' name", "'bb' name", "'ccc' name", "'dddd' name", "'ddddi' name", "'i' ending", "'a bb ccc dddd ddddi' page",
            "word 3..4 4 = 3 3", "form 0..4 -1 0 = 1 2 3 4 5",
            "dropName 1 = 4", "form 0..3 -1 0 = 1 3 4 5", "form 4 -1 0 = INVALID_ARGUMENT", "word 0..4 3 = 1 0 1 1 1",
            "word 2..4 4 = 1 2 2",
            "dropName 0 = 3", "form 0..2 -1 0 = 3 4 5", "word 2..4 4 = 0 1 1", "word 0 3 = 0",
            "dropName 1 = 2", "form 0..1 -1 0 = 3 5", "word 4 4..5 = 1 -1", "word 3 3 = 0",
            "dropName 1 = 1", "form 0 -1 0 = 3", "form 1 -1 0 = INVALID_ARGUMENT", "dropName 1 = INVALID_ARGUMENT",
            "dropName 0 = 0", "count 1 = 0", "count 5 = 0", "dropName 0 = INVALID_ARGUMENT");
        EDGES.edge("promise 8: of eight",
            "'a' name", "'bi' name", "'cii' name", "'diii' name", "'eiiii' name", "'fiiiii' name", "'giiiiii' name",
            "'hiiiiiii' name", "dropName 8 = INVALID_ARGUMENT",
            "dropName 7 = 7", "form 0..6 -1 0 = 1 2 3 4 5 6 7", "name = 7",
            "dropName 0 = 7", "form 0..6 -1 0 = 2 3 4 5 6 7 8", "form 0..6 -1 1 = 6 8 10 12 13 16 18",
            "dropName 7 = INVALID_ARGUMENT", "'a' name = 7", "form 7 -1 0 = 1");
    }

    private static void dropEnding() {
        EDGES.edge("promise 9: number of the ending",
            "dropEnding 0 = INVALID_ARGUMENT", "'s' ending", "'es' ending",
            "dropEnding -1 = INVALID_ARGUMENT", "dropEnding 2 = INVALID_ARGUMENT", "dropEnding 4 = INVALID_ARGUMENT",
            "dropEnding least = INVALID_ARGUMENT", "dropEnding greatest = INVALID_ARGUMENT", "count 4 = 2", "count 15 = 2");
        EDGES.edge("promise 9: the numbers of the later ones decrease by 1",
            "'a' name", "'i' ending", "'mm' ending", "'www' ending", "'i' name", "'x' ending",
            "'ai amm awww ax' page", "word 0..3 5 = 0 1 2 3", "form 0 -1..3 0 = 1 2 3 4 2",
            "dropEnding 4 = INVALID_ARGUMENT",
            "dropEnding 1 = 3", "form 0 -1..2 0 = 1 2 4 2", "form 0 3 0 = INVALID_ARGUMENT", "word 0..3 3 = 1 0 1 1",
            "word 2..3 5 = 1 2", "form 1 -1..2 1 = 2 4 20 6",
            "dropEnding 0 = 2", "word 2..3 5 = 0 1", "word 0 3 = 0",
            "dropEnding 1 = 1", "word 2 5 = 0", "word 3 3 = 0", "dropEnding 1 = INVALID_ARGUMENT",
            "dropEnding 0 = 0", "count 5 = 2", "count 1 = 0", "dropEnding 0 = INVALID_ARGUMENT", "form 0 0 0 = INVALID_ARGUMENT");
    }
}
