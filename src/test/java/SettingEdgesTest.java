/** The edges that the promises 10 to 12 name: widths of letters, settings and counts. */
public final class SettingEdgesTest {
    private static final Edges EDGES = new Edges();

    public static void main(String[] args) {
        letterOfWiden();
        widthOfWiden();
        whatOfSet();
        valueOfSet();
        whatOfCount();
        fullCounts();
        countsOfBars();
        EDGES.end();
    }

    private static void letterOfWiden() {
        EDGES.edge("promise 10: a letter's code, 97 to 122",
            "widen 96 5 = INVALID_ARGUMENT", "widen 97 5 = 4", "widen 98 5 = 4", "widen 121 5 = 4", "widen 122 5 = 4",
            "widen 123 5 = INVALID_ARGUMENT", "widen 65 5 = INVALID_ARGUMENT", "widen 0 5 = INVALID_ARGUMENT",
            "widen -97 5 = INVALID_ARGUMENT", "widen least 5 = INVALID_ARGUMENT", "widen greatest 5 = INVALID_ARGUMENT",
            "widen 96 0 = INVALID_ARGUMENT", "widen 123 10 = INVALID_ARGUMENT",
            "'a b y z c' page", "word 0..4 1 = 5 5 5 5 4");
        EDGES.edge("promise 10: each letter has a width of its own",
            "widen 97..122 7 = 4 4 4 4 4 3 4 4 2 2 4 2 6 4 4 4 4 3 4 3 4 4 6 4 4 4", "widen 97..122 7 = 7");
    }

    private static void widthOfWiden() {
        EDGES.edge("promise 10: 1 to 9; returns the previous width",
            "'a' name", "'a' page", "widen 97 0 = INVALID_ARGUMENT", "widen 97 1 = 4", "word 0 1..2 = 1 1", "widen 97 9 = 1",
            "word 0 1..2 = 9 9", "widen 97 10 = INVALID_ARGUMENT", "widen 97 -1 = INVALID_ARGUMENT",
            "widen 97 least = INVALID_ARGUMENT", "widen 97 greatest = INVALID_ARGUMENT", "widen 97 8 = 9", "widen 97 2 = 8",
            "form 0 -1 1..2 = 2 2", "count 15 = 4");
        EDGES.edge("promise 10: the page is shown by the new width",
            "'aa' name", "'aa aa' page", "set 4 20", "count 2 = 1", "line 0 2 = 19", "widen 97 5 = 4", "count 2 = 2",
            "line 0 2 = 10", "under 8 = 0", "under 10 = 1", "word 1 6..7 = 1 0");
    }

    private static void whatOfSet() {
        EDGES.edge("promise 11: what, 0 to 4",
            "set -1 1 = INVALID_ARGUMENT", "set 5 1 = INVALID_ARGUMENT", "set 5 20 = INVALID_ARGUMENT",
            "set -1 20 = INVALID_ARGUMENT", "set 6 1 = INVALID_ARGUMENT", "set 11 1 = INVALID_ARGUMENT",
            "set least 1 = INVALID_ARGUMENT", "set greatest 1 = INVALID_ARGUMENT", "count 6..10 = 0 10 3 3 80",
            "set 0 3 = 0", "set 4 20 = 80", "count 6..10 = 3 10 3 3 20");
    }

    private static void setting(String told, int what, int first, int least, int greatest) {
        String set = "set " + what + " ";
        String value = "count " + (6 + what) + " = ";
        EDGES.edge("promise 11: " + told,
            value + first, set + (least - 1) + " = INVALID_ARGUMENT", value + first,
            set + (greatest + 1) + " = INVALID_ARGUMENT", value + first,
            set + "least = INVALID_ARGUMENT", set + "greatest = INVALID_ARGUMENT", set + "-1 = INVALID_ARGUMENT", "count 15 = 0",
            set + least + " = " + first, value + least, set + (least + 1) + " = " + least, value + (least + 1),
            set + (greatest - 1) + " = " + (least + 1), set + greatest + " = " + (greatest - 1), value + greatest,
            "count 15 = 4", "undo = 3", value + (greatest - 1));
    }

    private static void valueOfSet() {
        setting("the mode, 0 to 3", 0, 0, 0, 3);
        setting("the step, 1 to 50", 1, 10, 1, 50);
        setting("the group, 1 to 8", 2, 3, 1, 8);
        setting("the gap, 1 to 9", 3, 3, 1, 9);
        setting("the line width, 20 to 200", 4, 80, 20, 200);
    }

    private static void whatOfCount() {
        EDGES.edge("promise 12: what, 0 to 16",
            "'a!'", "count -1 = INVALID_ARGUMENT", "count 0 = 0", "count 16 = 2", "count 17 = INVALID_ARGUMENT",
            "count least = INVALID_ARGUMENT", "count greatest = INVALID_ARGUMENT");
        EDGES.edge("promise 12: names and endings without a page",
            "'ann' name", "'s' ending", "'es' ending",
            "count 0..16 = 0 0 0 1 2 3 0 10 3 3 80 0 0 0 0 3 2");
        EDGES.edge("promise 12: a page without names",
            "'the end' page", "count 0..16 = 2 0 1 0 0 0 0 10 3 3 80 0 23 0 0 1 7");
        EDGES.edge("promise 12: the settings",
            "set 0 1", "set 1 2", "set 2 4", "set 3 5", "set 4 100", "count 6..10 = 1 2 4 5 100", "count 15 = 4");
    }

    private static void fullCounts() {
        EDGES.edge("promise 12: all is full",
            "'a' name", "'b' name", "'c' name", "'d' name", "'e' name", "'f' name", "'g' name", "'h' name",
            "'i' ending", "'j' ending", "'k' ending", "'l' ending", "'" + "a ".repeat(39) + "f' page = 40",
            // a line has 11 words: 11 of 4 with 10 gaps of 3 are 74; no other form is as narrow as f
            "count 0..16 = 40 40 4 8 4 40 0 10 3 3 80 1 159 0 2 4 79",
            "set 0 3", "count 11..14 = 0 320 161 1", "count 2 = 6", "'" + "a ".repeat(20) + "' clearText = 40",
            "count 0 = 40", "count 16 = 0");
    }

    private static void countsOfBars() {
        EDGES.edge("promise 12: different widths of bars on the page",
            "'aa' name", "'mm' name", "count 14 = 0", "'aaa mmm' page", "count 14 = 0", "'aa aaa aa' page", "count 14 = 1",
            "'aa mm aa mm' page", "count 14 = 2", "set 0 1", "count 14 = 2", "set 1 12", "count 14 = 1", "set 0 3", "count 14 = 1");
        EDGES.edge("promise 12: an own width like that of a bar is none",
            "'aa' name", "'bb aa cc' page", "count 14 = 1", "'bb cc' page", "count 14 = 0");
        EDGES.edge("promise 12: the sum of all shown widths, without gaps",
            "'aa' name", "'aa the aa' page", "count 12 = 27", "set 3 9", "count 12 = 27", "set 0 1", "count 12 = 31",
            "count 13 = 4", "set 0 2", "count 12..13 = 27 0");
        EDGES.edge("promise 12: hidden words, each of them",
            "'aa' name", "'b' ending", "'aa aab aa ab' page", "count 1 = 3", "dropEnding 0", "count 1 = 2",
            "dropName 0", "count 1 = 0", "undo", "undo", "count 1 = 3");
    }
}
