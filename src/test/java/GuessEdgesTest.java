/** The edges that the promises 17 to 23 name: forms, guesses, steps, modes and undo. */
public final class GuessEdgesTest {
    private static final Edges EDGES = new Edges();

    public static void main(String[] args) {
        formArguments();
        formAnswers();
        under();
        guessArguments();
        guessOrder();
        guessGaps();
        sameArguments();
        sameAnswers();
        stepForArguments();
        stepForLeast();
        stepForBounds();
        modeForNone();
        modeForLeast();
        modeForSettings();
        undoBounds();
        undoOfEach();
        EDGES.end();
    }

    private static void formArguments() {
        EDGES.edge("promise 17: number of the name, number of the ending or -1, what from 0 to 3",
            "form 0 -1 0 = INVALID_ARGUMENT", "'ann' name", "'bo' name", "form 0 0 0 = INVALID_ARGUMENT", "'s' ending", "'es' ending",
            "form -1 -1 0 = INVALID_ARGUMENT", "form 2 -1 0 = INVALID_ARGUMENT", "form least -1 0 = INVALID_ARGUMENT",
            "form greatest -1 0 = INVALID_ARGUMENT", "form 0 -2 0 = INVALID_ARGUMENT", "form 0 2 0 = INVALID_ARGUMENT",
            "form 1 2 0 = INVALID_ARGUMENT", "form 0 least 0 = INVALID_ARGUMENT", "form 0 greatest 0 = INVALID_ARGUMENT",
            "form 0 -1 -1 = INVALID_ARGUMENT", "form 0 -1 4 = INVALID_ARGUMENT", "form 1 1 4 = INVALID_ARGUMENT",
            "form 1 1 -1 = INVALID_ARGUMENT", "form 0 0 least = INVALID_ARGUMENT", "form 0 0 greatest = INVALID_ARGUMENT",
            "form 0 -1..1 0..3 = 3 12 12 0 4 16 16 0 5 20 20 0", "form 1 -1..1 0..3 = 2 8 8 0 3 12 12 0 4 16 16 0");
    }

    private static void formAnswers() {
        EDGES.edge("promise 17: words of the page that are hidden as this form",
            "'il' name", "'ill' name", "'l' ending", "'ill il the illl ill ill' page",
            "form 0 -1..0 3 = 1 3", "form 1 -1..0 3 = 0 1", "dropName 0", "form 0 -1..0 3 = 3 1",
            "'the end' page", "form 0 -1..0 3 = 0");
        EDGES.edge("promise 17: all 40 words hidden as one form",
            "'a' name", "'b' name", "'" + "a ".repeat(39) + "a' page", "form 0..1 -1 3 = 40 0");
        EDGES.edge("promise 17: the width that its bar has, on the page or not",
            "'aa' name", "'b' ending", "form 0 -1..0 1..2 = 8 8 12 12", "set 0 1", "form 0 -1..0 1..2 = 8 10 12 20",
            "set 0 2", "form 0 -1..0 1..2 = 8 12 12 12", "set 2 1", "form 0 -1..0 1..2 = 8 8 12 12",
            "set 0 3", "form 0 -1..0 1..2 = 8 12 12 12");
    }

    private static void under() {
        EDGES.edge("promise 18: a width, 0 to 500",
            "'a' name", "under -1 = INVALID_ARGUMENT", "under 0 = 0", "under 499..500 = 0", "under 501 = INVALID_ARGUMENT",
            "under least = INVALID_ARGUMENT", "under greatest = INVALID_ARGUMENT", "under 3..5 = 0 1 0");
        EDGES.edge("promise 18: of no names", "under 0..200 = 0", "'a' ending", "under 0..10 = 0", "set 0 3", "under 0..10 = 0");
        EDGES.edge("promise 18: the widest bar",
            "'mmmmmmmm' name", "'www' ending", "widen 109 9", "widen 119 9", "under 98..100 = 0 1 0", "under 72 = 1",
            "set 0 1", "set 1 49", "under 146..148 = 0 1 0", "under 98 = 1", "under 99 = 0");
    }

    private static void guessArguments() {
        EDGES.edge("promise 19: INVALID_ARGUMENT if an argument is out of its range (place: negative)",
            "guess 0 0 0 = INVALID_ARGUMENT", "'aa' name", "'aa the' page",
            "guess -1 0 0 = INVALID_ARGUMENT", "guess 2 0 0 = INVALID_ARGUMENT", "guess least 0 0 = INVALID_ARGUMENT",
            "guess greatest 0 0 = INVALID_ARGUMENT", "guess 0 -1 0 = INVALID_ARGUMENT", "guess 0 least 0 = INVALID_ARGUMENT",
            "guess 0 0 -1 = INVALID_ARGUMENT", "guess 0 0 2 = INVALID_ARGUMENT", "guess 0 0 least = INVALID_ARGUMENT",
            "guess 0 0 greatest = INVALID_ARGUMENT", "guess 0 0 0..1 = 0 0", "guess 0 1 2 = INVALID_ARGUMENT");
        EDGES.edge("promise 19: NOT_POSSIBLE if the word is not hidden",
            "'aa' name", "'aa the' page", "guess 1 0 0..1 = NOT_POSSIBLE", "guess 1 1 0 = NOT_POSSIBLE",
            "guess 1 greatest 1 = NOT_POSSIBLE", "guess 1 -1 0 = INVALID_ARGUMENT", "guess 1 0 2 = INVALID_ARGUMENT");
        EDGES.edge("promise 19: NOT_FOUND if there are not so many",
            "'aa' name", "'bb' name", "'il' name", "'aa il' page", "guess 0 0..1 0 = 0 1", "guess 0 2 0..1 = NOT_FOUND",
            "guess 1 0 0..1 = 2 0", "guess 1 1 0..1 = NOT_FOUND", "guess 0 8 0 = NOT_FOUND", "guess 0 greatest 0..1 = NOT_FOUND");
    }

    private static void guessOrder() {
        EDGES.edge("promise 19: those with the same gap by their numbers, eight of them",
            "'a' name", "'b' name", "'c' name", "'d' name", "'e' name", "'g' name", "'h' name", "'k' name", "'e' page",
            "guess 0 0..7 0 = 0 1 2 3 4 5 6 7", "guess 0 0..7 1 = 0", "guess 0 8 0..1 = NOT_FOUND");
        EDGES.edge("promise 19: by the least gap",
            "'i' name", "'f' name", "'a' name", "'m' name", "'aa' name", "'mm' name", "'mmm' name", "'mmmm' name", "'i' page",
            "set 0 3", "guess 0 0..7 0 = 7 6 5 4 3 2 1 0", "guess 0 0..7 1 = 0 6 12 16 18 20 21 22", "guess 0 8 0 = NOT_FOUND");
        EDGES.edge("promise 19: by the gap first, by the number then",
            "'aa' name", "'aaa' name", "'bb' name", "'bbb' name", "'aa bbb' page", "set 0 3",
            "guess 0 0..3 0 = 1 3 0 2", "guess 0 0..3 1 = 0 0 4 4", "guess 1 0..3 0 = 1 3 0 2", "guess 1 4 0 = NOT_FOUND");
    }

    private static void guessGaps() {
        EDGES.edge("promise 19: the least gap of one of their forms that would have such a bar",
            "'aa' name", "'il' name", "'b' ending", "'aa aab' page", "set 0 1",
            // aa 8 under 10, aab 12 under 20; il 4 and ilb 8 under 10
            "guess 0 0..1 0 = 0 1", "guess 0 0..1 1 = 2 2", "guess 0 2 0 = NOT_FOUND",
            "guess 1 0 0..1 = 0 8", "guess 1 1 0 = NOT_FOUND",
            "set 1 50", "guess 0 0..1 1 = 38 42", "guess 1 0..1 1 = 38 42",
            "dropEnding 0", "guess 0 0..1 1 = 42 46", "guess 1 0 0 = NOT_POSSIBLE");
        EDGES.edge("promise 19: gaps of 0, 1 and 2, the least and the next ones",
            "'aai' name", "'fm' name", "'aa' name", "'fm aai' page", "set 0 1",
            "guess 0 0..2 0 = 0 1 2", "guess 0 0..2 1 = 0 1 2", "guess 1 0..2 0 = 0 1 2", "guess 0 3 0..1 = NOT_FOUND",
            "dropName 0", "guess 0 0..1 0 = 0 1", "guess 0 0..1 1 = 1 2");
        EDGES.edge("promise 19: a name that is nearer by another form than the word's",
            "'i' name", "'a' name", "'mm' ending", "'f' ending", "'i' page", "set 0 3",
            // all bars are 16: i 2, imm 14, if 5; a 4, amm 16, af 7
            "guess 0 0..1 0 = 1 0", "guess 0 0..1 1 = 0 2");
    }

    private static void sameArguments() {
        EDGES.edge("promise 20: numbers of names",
            "same 0 0 = INVALID_ARGUMENT", "'aa' name", "'bb' name", "'aa bb' page",
            "same -1 0 = INVALID_ARGUMENT", "same 0 -1 = INVALID_ARGUMENT", "same 2 0 = INVALID_ARGUMENT",
            "same 0 2 = INVALID_ARGUMENT", "same -1 -1 = INVALID_ARGUMENT", "same 2 2 = INVALID_ARGUMENT",
            "same least 0 = INVALID_ARGUMENT", "same 0 least = INVALID_ARGUMENT", "same greatest 0 = INVALID_ARGUMENT",
            "same 0 greatest = INVALID_ARGUMENT", "same 0..1 0..1 = 1");
        EDGES.edge("promise 20: one name and itself: 1",
            "'aa' name", "same 0 0 = 1", "'il' name", "'s' ending", "'aa ils il' page", "same 0..1 0..1 = 1 0 0 1");
    }

    private static void sameAnswers() {
        EDGES.edge("promise 20: as the bars are in the present mode",
            "'aa' name", "'il' name", "'mm' name", "'aa' page",
            "same 0 1..2 = 0", "set 0 1", "same 0 1..2 = 1 0", "set 1 12", "same 0 1..2 = 1 1", "same 1 2 = 1",
            "set 0 2", "same 0 1..2 = 1", "set 2 1", "same 0 1..2 = 0", "same 1 2 = 1", "set 0 3", "same 0 1..2 = 1");
        EDGES.edge("promise 20: the last word, the last ending",
            "'aa' name", "'bb' name", "'e' ending", "'s' ending", "'u' ending", "'x' ending",
            "'aa aae aas aau bbx' page", "same 0 1 = 1", "widen 98 5", "same 0 1 = 0",
            "'the the the the bbx' page", "same 0 1 = 0", "'the the the the aax' page", "same 1 0 = 0",
            "'the the the the ccx' page", "same 0 1 = 1");
    }

    private static void stepForArguments() {
        EDGES.edge("promise 21: names, 1 to 8",
            "stepFor 0 = INVALID_ARGUMENT", "stepFor 1 = 1", "stepFor 8 = 1", "stepFor 9 = INVALID_ARGUMENT",
            "stepFor -1 = INVALID_ARGUMENT", "stepFor least = INVALID_ARGUMENT", "stepFor greatest = INVALID_ARGUMENT",
            "'aa' name", "'aa' page", "stepFor 0 = INVALID_ARGUMENT", "stepFor 1 = 1", "stepFor 2..8 = NOT_FOUND",
            "stepFor 9 = INVALID_ARGUMENT");
        EDGES.edge("promise 21: 1, if it has no bars",
            "stepFor 8 = 1", "'the end' page", "stepFor 8 = 1", "'ann' name", "stepFor 1..8 = 1", "'ann' page", "stepFor 8 = NOT_FOUND",
            "'' page", "stepFor 8 = 1");
        EDGES.edge("promise 21: it changes neither mode nor step",
            "'aa' name", "'il' name", "'aa' page", "set 0 2", "stepFor 2 = 8", "count 6..7 = 2 10", "count 15 = 4", "word 0 2 = 8",
            "set 0 3", "stepFor 2 = 8", "set 0 1", "stepFor 2 = 8", "word 0 2 = 10");
    }

    private static void stepForLeast() {
        EDGES.edge("promise 21: the least step with at least so many names",
            // 8, 12 and 18
            "'aa' name", "'bbb' name", "'mmm' name",
            "'aa' page", "stepFor 1..4 = 1 6 18 NOT_FOUND", "'mmm' page", "stepFor 1..4 = 1 9 18 NOT_FOUND",
            "'bbb' page", "stepFor 1..4 = 1 6 18 NOT_FOUND");
        EDGES.edge("promise 21: under each bar of the page",
            "'aa' name", "'bbb' name", "'mmm' name", "'aa the mmm' page", "stepFor 1..4 = 1 18 18 NOT_FOUND",
            "'aa bbb' page", "stepFor 2 = 6", "'the aa' page", "stepFor 2 = 6");
        EDGES.edge("promise 21: names, not forms",
            "'aa' name", "'e' ending", "'s' ending", "'aae' page", "word 0 9 = 1", "stepFor 1..2 = 1 NOT_FOUND",
            "'bb' name", "stepFor 2..3 = 1 NOT_FOUND");
        EDGES.edge("promise 21: eight names",
            "'i' name", "'f' name", "'a' name", "'m' name", "'aa' name", "'mm' name", "'mmm' name", "'i' page",
            "stepFor 7..8 = 18 NOT_FOUND", "'mmmm' name", "stepFor 7..8 = 18 24", "dropName 0", "stepFor 8 = 1",
            "undo", "'mmmm' page", "stepFor 2 = 8", "stepFor 8 = 24");
    }

    private static void stepForBounds() {
        EDGES.edge("promise 21: the step, 1 to 50; NOT_FOUND if there is none",
            "'a' name", "'mmmmmmzz' name", "widen 97 1", "'a' page",
            "widen 122 6", "stepFor 2 = 48", "widen 122 7", "stepFor 2 = 50", "widen 122 8", "stepFor 2 = NOT_FOUND", "stepFor 1 = 1");
        EDGES.edge("promise 21: the step 1 is enough for names of one width",
            "'aa' name", "'bb' name", "'aa' page", "stepFor 2 = 1", "widen 98 5", "stepFor 2 = 5");
    }

    private static void modeForNone() {
        EDGES.edge("promise 22: NOT_FOUND if there is none",
            "'aa' name", "modeFor = 0", "'the' page", "modeFor = 0", "'aa' page", "modeFor = NOT_FOUND",
            "'bb' name", "modeFor = 0", "dropName 0", "modeFor = 0", "'bb' page", "modeFor = NOT_FOUND", "count 6 = 0");
        EDGES.edge("promise 22: without words", "modeFor = 0", "set 0 3", "modeFor = 0", "count 6 = 3");
    }

    private static void modeForLeast() {
        EDGES.edge("promise 22: the least sum of shown widths, of several the least mode",
            "'aa' name", "'il' name", "'aa' page",
            // own betrays; by steps of 10 10, by groups 8, all alike 8
            "modeFor = 2", "set 1 8", "modeFor = 1", "set 1 9", "modeFor = 2", "set 1 7", "modeFor = 2", "set 2 1", "modeFor = 3",
            "set 1 8", "modeFor = 1");
        EDGES.edge("promise 22: own, if it betrays none",
            "'aa' name", "'bb' name", "'il' name", "'aa the' page", "modeFor = 0", "set 0 3", "modeFor = 0", "widen 98 5",
            "modeFor = 1", "widen 98 6", "modeFor = 1", "widen 98 9", "modeFor = 1", "count 6 = 3");
        EDGES.edge("promise 22: one bar that is betrayed is enough",
            "'aa' name", "'bb' name", "'mm' name", "'aa aa mm' page",
            // 8 and 12: by steps of 10 the 20 betrays; by groups and all alike 12
            "modeFor = 2", "'aa aa' page", "modeFor = 0", "'aa mm' page", "modeFor = 2", "set 1 12", "modeFor = 1");
        EDGES.edge("promise 22: the sum of all, the words that are not hidden too",
            "'aa' name", "'il' name", "'mm' name", "'il il il aa' page",
            // steps of 10: il and aa 10 each, 40; groups of 3: 12 each, 48
            "modeFor = 1", "set 2 2", "modeFor = 1", "set 1 13", "modeFor = 2", "count 12 = 20");
    }

    private static void modeForSettings() {
        EDGES.edge("promise 22: by the present step and group",
            "'aa' name", "'il' name", "'mmm' name", "'mmmm' name", "'aa' page",
            // 4 8 18 24: groups of 2 are 8 and 24, of 3 and of 4 one of 24
            "set 1 50", "set 2 2", "modeFor = 2", "set 2 3", "modeFor = 2", "set 2 1", "modeFor = 3",
            "set 1 24", "modeFor = 1", "set 1 23", "modeFor = 1", "set 1 25", "modeFor = 3", "set 2 8", "modeFor = 2");
        EDGES.edge("promise 22: whatever the present mode is",
            "'aa' name", "'il' name", "'aa' page", "modeFor = 2", "set 0 1", "modeFor = 2", "set 0 2", "modeFor = 2",
            "set 0 3", "modeFor = 2", "count 6 = 3", "count 15 = 4");
    }

    private static void undoBounds() {
        EDGES.edge("promise 23: NOT_POSSIBLE if it is empty",
            "undo = NOT_POSSIBLE", "set 1 20", "undo = 0", "undo = NOT_POSSIBLE", "count 7 = 10", "count 15 = 0");
        EDGES.edge("promise 23: the number of states that are left",
            "'a' name", "'b' name", "'c' name", "count 15 = 3", "undo = 2", "count 3 = 2", "undo = 1", "count 3 = 1",
            "'d' name = 1", "count 15 = 2", "undo = 1", "undo = 0", "count 3 = 0", "undo = NOT_POSSIBLE");
        EDGES.edge("promise 23: a state restored is no state recorded",
            "set 1 20", "set 1 30", "undo = 1", "undo = 0", "count 7 = 10", "undo = NOT_POSSIBLE", "set 1 40 = 10", "undo = 0",
            "count 7 = 10");
        EDGES.edge("promise 23: of five changes four",
            "'a' name", "'b' name", "'c' name", "'d' name", "count 15 = 4", "'e' name", "count 15 = 4",
            "undo = 3", "undo = 2", "undo = 1", "undo = 0", "count 3 = 1", "undo = NOT_POSSIBLE", "form 0 -1 0 = 1");
    }

    private static void undoOfEach() {
        EDGES.edge("promise 23: of each change",
            "'ann' name", "'s' ending", "'ann anns the' page",
            "'end' page", "undo = 3", "word 0..2 3 = 1 1 0", "letter 2 0..2 = 116 104 101",
            "'the' name", "word 2 3 = 1", "undo = 3", "word 2 3 = 0",
            "'e' ending", "undo = 3", "count 4 = 1",
            "dropName 0", "word 0 3 = 0", "undo = 3", "word 0 3..5 = 1 0 -1",
            "dropEnding 0", "word 1 3 = 0", "undo = 3", "word 1 3..5 = 1 0 0",
            "widen 97 9", "word 0 2 = 17", "undo = 3", "word 0 2 = 12", "widen 97 4 = 4", "undo = 3");
        EDGES.edge("promise 23: of each setting",
            "'aa' name", "'aa bb aa' page", "set 0 1", "word 0 2 = 10", "undo = 2", "word 0 2 = 8",
            "set 1 20", "undo = 2", "count 7 = 10", "set 2 8", "undo = 2", "count 8 = 3",
            "set 3 9", "word 1 7 = 17", "undo = 2", "word 1 7 = 11", "set 4 20", "count 2 = 2", "undo = 2", "count 2 = 1");
        EDGES.edge("promise 23: of full pages, in both directions",
            "'a' name", "'" + "a ".repeat(39) + "a' page", "'b' page = 1", "undo = 2", "count 0..1 = 40 40",
            "undo = 1", "count 0 = 0", "undo = 0", "count 3 = 0");
    }
}
