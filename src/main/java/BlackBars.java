/**
 * A page of words on which a censor hides names and their forms under bars, and a guesser who
 * tells from the widths of the bars which names may be under them.
 *
 * All rows are made in the constructor and used again, so no call makes an object. What follows
 * from the state (widths of forms, bars, lines) is worked out anew behind every change, so that
 * the questions only look it up.
 */
public final class BlackBars {
    public static final int INVALID_ARGUMENT = -11;
    public static final int NOT_POSSIBLE = -12;
    public static final int LIMIT_REACHED = -13;
    public static final int NOT_FOUND = -14;

    private static final int MAX_TEXT = 200;
    private static final int MAX_WORDS = 40;
    private static final int MAX_WORD_LETTERS = 12;
    private static final int MAX_NAMES = 8;
    private static final int MAX_NAME_LETTERS = 8;
    private static final int MAX_ENDINGS = 4;
    private static final int MAX_ENDING_LETTERS = 3;
    private static final int MAX_FORMS = MAX_NAMES * (MAX_ENDINGS + 1);
    private static final int MAX_STATES = 4;

    private static final int FIRST_CHARACTER = 32;
    private static final int LAST_CHARACTER = 126;
    private static final int BLANK = ' ';
    private static final int GREATEST_LETTER_WIDTH = 9;
    private static final int GREATEST_WIDTH_ASKED = 500;

    private static final int NO_FORM = -1;
    private static final int NO_ENDING = -1;
    private static final int NO_GAP = -1;

    private static final int MODE = 0;
    private static final int STEP = 1;
    private static final int GROUP = 2;
    private static final int GAP = 3;
    private static final int LINE_WIDTH = 4;
    private static final int SETTINGS = 5;

    private static final int OWN = 0;
    private static final int BY_STEPS = 1;
    private static final int BY_GROUPS = 2;
    private static final int ALL_ALIKE = 3;
    private static final int GREATEST_STEP = 50;

    private static final int[] LEAST_VALUES = {0, 1, 1, 1, 20};
    private static final int[] GREATEST_VALUES = {ALL_ALIKE, GREATEST_STEP, 8, 9, 200};
    private static final int[] FIRST_VALUES = {OWN, 10, 3, 3, 80};
    /** The widths of a to z that a new object has. */
    private static final int[] FIRST_WIDTHS = {
        4, 4, 4, 4, 4, 3, 4, 4, 2, 2, 4, 2, 6, 4, 4, 4, 4, 3, 4, 3, 4, 4, 6, 4, 4, 4
    };

    private final Text text;
    private final State state;
    private final History history;
    private final Forms forms;
    private final Bars bars;
    private final Bars trialBars;
    private final Sheet sheet;

    public BlackBars() {
        text = new Text();
        state = new State();
        history = new History();
        forms = new Forms();
        bars = new Bars(forms);
        trialBars = new Bars(forms);
        sheet = new Sheet(state, forms);
    }

    // ---- texts

    public int type(int character) {
        if (character < FIRST_CHARACTER || character > LAST_CHARACTER) {
            return INVALID_ARGUMENT;
        }
        if (text.size() >= MAX_TEXT) {
            return LIMIT_REACHED;
        }
        text.append(character);
        return text.size();
    }

    public int clearText() {
        int length = text.size();
        text.empty();
        return length;
    }

    public int fault(int what) {
        if (what < 0 || what > 1) {
            return INVALID_ARGUMENT;
        }
        int index = text.faultIndex();
        if (index < 0) {
            return NOT_FOUND;
        }
        return what == 0 ? index : text.faultReason(index);
    }

    public int page() {
        if (text.faultIndex() >= 0) {
            return NOT_POSSIBLE;
        }
        history.keep(state);
        state.page.empty();
        state.page.addWordsOf(text);
        workOut();
        return state.page.size();
    }

    public int name() {
        return addTextTo(state.names);
    }

    public int ending() {
        return addTextTo(state.endings);
    }

    public int dropName(int name) {
        return dropFrom(state.names, name);
    }

    public int dropEnding(int ending) {
        return dropFrom(state.endings, ending);
    }

    // ---- settings

    public int widen(int letter, int width) {
        if (!isLetter(letter) || width < 1 || width > GREATEST_LETTER_WIDTH) {
            return INVALID_ARGUMENT;
        }
        int previous = state.letterWidths.at(letter - 'a');
        history.keep(state);
        state.letterWidths.put(letter - 'a', width);
        workOut();
        return previous;
    }

    public int set(int what, int value) {
        if (what < 0 || what >= SETTINGS) {
            return INVALID_ARGUMENT;
        }
        if (value < LEAST_VALUES[what] || value > GREATEST_VALUES[what]) {
            return INVALID_ARGUMENT;
        }
        int previous = state.settings.at(what);
        history.keep(state);
        state.settings.put(what, value);
        workOut();
        return previous;
    }

    public int count(int what) {
        switch (what) {
            case 0: return state.page.size();
            case 1: return sheet.barsBetween(0, state.page.size());
            case 2: return sheet.lineCount();
            case 3: return state.names.size();
            case 4: return state.endings.size();
            case 5: return forms.size();
            case 6: return state.settings.at(MODE);
            case 7: return state.settings.at(STEP);
            case 8: return state.settings.at(GROUP);
            case 9: return state.settings.at(GAP);
            case 10: return state.settings.at(LINE_WIDTH);
            case 11: return sheet.betrayedBars(bars);
            case 12: return sheet.sumOfShownWidths(bars);
            case 13: return sheet.sumOfGaps(bars);
            case 14: return sheet.differentBarWidths();
            case 15: return history.size();
            case 16: return text.size();
            default: return INVALID_ARGUMENT;
        }
    }

    // ---- the page

    public int word(int word, int what) {
        if (!state.page.has(word) || what < 0 || what > 9) {
            return INVALID_ARGUMENT;
        }
        switch (what) {
            case 0: return state.page.lengthOf(word);
            case 1: return sheet.ownWidthOf(word);
            case 2: return sheet.shownWidthOf(word);
            case 3: return sheet.isHidden(word) ? 1 : 0;
            case 6: return sheet.lineOf(word);
            case 7: return sheet.placeOf(word);
            default: return hiddenWord(word, what);
        }
    }

    public int letter(int word, int index) {
        if (!state.page.has(word) || index < 0) {
            return INVALID_ARGUMENT;
        }
        if (sheet.isHidden(word)) {
            return NOT_POSSIBLE;
        }
        if (index >= state.page.lengthOf(word)) {
            return NOT_FOUND;
        }
        return state.page.letterOf(word, index);
    }

    public int line(int line, int what) {
        if (!sheet.hasLine(line)) {
            return INVALID_ARGUMENT;
        }
        int first = sheet.firstWordOf(line);
        int behind = sheet.firstWordBehind(line);
        switch (what) {
            case 0: return first;
            case 1: return behind - first;
            case 2: return sheet.widthBetween(first, behind);
            case 3: return Math.max(0, state.settings.at(LINE_WIDTH) - sheet.widthBetween(first, behind));
            case 4: return sheet.barsBetween(first, behind);
            default: return INVALID_ARGUMENT;
        }
    }

    public int widthAgain(int line) {
        if (!sheet.hasLine(line)) {
            return INVALID_ARGUMENT;
        }
        int last = sheet.firstWordBehind(line) - 1;
        return sheet.placeOf(last) + sheet.shownWidthOf(last);
    }

    // ---- forms and guesses

    public int form(int name, int ending, int what) {
        if (!state.names.has(name)) {
            return INVALID_ARGUMENT;
        }
        if (ending != NO_ENDING && !state.endings.has(ending)) {
            return INVALID_ARGUMENT;
        }
        int form = forms.numberOf(name, ending);
        switch (what) {
            case 0: return state.lengthOfForm(name, ending);
            case 1: return forms.widthOf(form);
            case 2: return bars.widthOf(form);
            case 3: return sheet.wordsHiddenAs(form);
            default: return INVALID_ARGUMENT;
        }
    }

    public int under(int width) {
        if (width < 0 || width > GREATEST_WIDTH_ASKED) {
            return INVALID_ARGUMENT;
        }
        return bars.namesUnder(width);
    }

    public int guess(int word, int place, int what) {
        if (!state.page.has(word) || place < 0 || what < 0 || what > 1) {
            return INVALID_ARGUMENT;
        }
        if (!sheet.isHidden(word)) {
            return NOT_POSSIBLE;
        }
        int width = sheet.shownWidthOf(word);
        for (int name = 0; name < state.names.size(); name++) {
            int gap = bars.leastGap(name, width);
            if (gap != NO_GAP && guessesAheadOf(name, gap, width) == place) {
                return what == 0 ? name : gap;
            }
        }
        return NOT_FOUND;
    }

    public int same(int one, int other) {
        if (!state.names.has(one) || !state.names.has(other)) {
            return INVALID_ARGUMENT;
        }
        for (int word = 0; word < state.page.size(); word++) {
            if (sheet.isHidden(word) && tellsApart(word, one, other)) {
                return 0;
            }
        }
        return 1;
    }

    public int stepFor(int names) {
        if (names < 1 || names > MAX_NAMES) {
            return INVALID_ARGUMENT;
        }
        for (int step = 1; step <= GREATEST_STEP; step++) {
            trialBars.draw(BY_STEPS, step, state.settings.at(GROUP));
            if (sheet.hasEnoughNames(trialBars, names)) {
                return step;
            }
        }
        return NOT_FOUND;
    }

    public int modeFor() {
        int best = NOT_FOUND;
        int leastSum = 0;
        for (int mode = OWN; mode <= ALL_ALIKE; mode++) {
            trialBars.draw(mode, state.settings.at(STEP), state.settings.at(GROUP));
            int sum = sheet.sumOfShownWidths(trialBars);
            boolean better = best == NOT_FOUND || sum < leastSum;
            if (better && sheet.betrayedBars(trialBars) == 0) {
                best = mode;
                leastSum = sum;
            }
        }
        return best;
    }

    public int undo() {
        if (history.size() == 0) {
            return NOT_POSSIBLE;
        }
        history.restore(state);
        workOut();
        return history.size();
    }

    // ---- parts of the calls

    /** Works out anew all that follows from the state. */
    private void workOut() {
        forms.measure(state);
        bars.draw(state.settings.at(MODE), state.settings.at(STEP), state.settings.at(GROUP));
        sheet.hideWords();
        sheet.flow(bars);
    }

    private int addTextTo(Words words) {
        if (!text.isOneWord(words.greatestLength()) || words.hasWord(text)) {
            return NOT_POSSIBLE;
        }
        if (words.isFull()) {
            return LIMIT_REACHED;
        }
        history.keep(state);
        words.addWordsOf(text);
        workOut();
        return words.size() - 1;
    }

    private int dropFrom(Words words, int index) {
        if (!words.has(index)) {
            return INVALID_ARGUMENT;
        }
        history.keep(state);
        words.remove(index);
        workOut();
        return words.size();
    }

    /** Those properties of a word that it has only if it is hidden. */
    private int hiddenWord(int word, int what) {
        if (!sheet.isHidden(word)) {
            return NOT_FOUND;
        }
        int names = bars.namesUnder(sheet.shownWidthOf(word));
        switch (what) {
            case 4: return forms.nameOf(sheet.formOf(word));
            case 5: return forms.endingOf(sheet.formOf(word));
            case 8: return names;
            default: return Integer.bitCount(names);
        }
    }

    /** How many names the guesser tells before this one, for a bar of this width. */
    private int guessesAheadOf(int name, int gap, int width) {
        int ahead = 0;
        for (int other = 0; other < state.names.size(); other++) {
            int otherGap = bars.leastGap(other, width);
            boolean sooner = otherGap < gap || (otherGap == gap && other < name);
            if (otherGap != NO_GAP && sooner) {
                ahead++;
            }
        }
        return ahead;
    }

    /** Whether a hidden word is a form of one of the names and would look different as the other's. */
    private boolean tellsApart(int word, int one, int other) {
        int name = forms.nameOf(sheet.formOf(word));
        int ending = forms.endingOf(sheet.formOf(word));
        if (name != one && name != other) {
            return false;
        }
        int oneWidth = bars.widthOf(forms.numberOf(one, ending));
        int otherWidth = bars.widthOf(forms.numberOf(other, ending));
        return oneWidth != otherWidth;
    }

    private static boolean isLetter(int character) {
        return character >= 'a' && character <= 'z';
    }

    // ---- classes inside

    /**
     * A row of numbers. Every index is looked at here, so that nobody else has to: one outside of
     * the row is read as 0 and not written.
     */
    private static final class Row {
        private final int[] cells;

        Row(int length) {
            cells = new int[Math.max(0, length)];
        }

        Row(int[] firstValues) {
            cells = firstValues.clone();
        }

        int at(int index) {
            return index >= 0 && index < cells.length ? cells[index] : 0;
        }

        void put(int index, int value) {
            if (index >= 0 && index < cells.length) {
                cells[index] = value;
            }
        }

        void copyFrom(Row other) {
            System.arraycopy(other.cells, 0, cells, 0, Math.min(cells.length, other.cells.length));
        }
    }

    /** The text that is typed. */
    private static final class Text {
        private final Row characters;
        private int length;

        Text() {
            characters = new Row(MAX_TEXT);
            length = 0;
        }

        int size() {
            return length;
        }

        int at(int index) {
            return characters.at(index);
        }

        void append(int character) {
            if (length < MAX_TEXT) {
                characters.put(length, character);
                length++;
            }
        }

        void empty() {
            length = 0;
        }

        boolean isOneWord(int greatestLength) {
            if (length < 1 || length > greatestLength) {
                return false;
            }
            for (int i = 0; i < length; i++) {
                if (!isLetter(characters.at(i))) {
                    return false;
                }
            }
            return true;
        }

        /** The index of the fault of the text as a page, -1 if it has none. */
        int faultIndex() {
            for (int i = 0; i < length; i++) {
                if (faultReason(i) != 0) {
                    return i;
                }
            }
            return -1;
        }

        /** Why the character cannot stand there, 0 if it can; there is no fault ahead of it. */
        int faultReason(int index) {
            int character = characters.at(index);
            if (character == BLANK) {
                boolean behindLetter = lettersAhead(index) > 0;
                return behindLetter && index < length - 1 ? 0 : 2;
            }
            if (!isLetter(character)) {
                return 1;
            }
            int ahead = lettersAhead(index);
            if (ahead >= MAX_WORD_LETTERS) {
                return 3;
            }
            return ahead == 0 && wordsAhead(index) >= MAX_WORDS ? 4 : 0;
        }

        /** How many letters stand immediately ahead of an index, told up to those of a full word. */
        private int lettersAhead(int index) {
            int letters = 0;
            while (letters < MAX_WORD_LETTERS && isLetter(characters.at(index - 1 - letters))) {
                letters++;
            }
            return letters;
        }

        private int wordsAhead(int index) {
            int words = 0;
            for (int i = 0; i < index; i++) {
                if (isLetter(characters.at(i)) && !isLetter(characters.at(i - 1))) {
                    words++;
                }
            }
            return words;
        }
    }

    /** Words in their order, at most so many and so long as told when it is made. */
    private static final class Words {
        private final int mostWords;
        private final int mostLetters;
        private final Row letters;
        private final Row lengths;
        private int size;

        Words(int mostWords, int mostLetters) {
            this.mostWords = mostWords;
            this.mostLetters = mostLetters;
            letters = new Row(mostWords * mostLetters);
            lengths = new Row(mostWords);
            size = 0;
        }

        int size() {
            return size;
        }

        boolean has(int word) {
            return word >= 0 && word < size;
        }

        boolean isFull() {
            return size >= mostWords;
        }

        int greatestLength() {
            return mostLetters;
        }

        /** The letters of a word, 0 of the word -1 that stands for none. */
        int lengthOf(int word) {
            return lengths.at(word);
        }

        int letterOf(int word, int index) {
            return letters.at(word * mostLetters + index);
        }

        int widthOf(int word, Row letterWidths) {
            int first = word * mostLetters;
            int behind = first + lengths.at(word);
            int width = 0;
            for (int i = first; i < behind; i++) {
                width += letterWidths.at(letters.at(i) - 'a');
            }
            return width;
        }

        /** Whether one of the words is the whole text. */
        boolean hasWord(Text text) {
            for (int word = 0; word < size; word++) {
                if (isWord(word, text)) {
                    return true;
                }
            }
            return false;
        }

        private boolean isWord(int word, Text text) {
            if (lengthOf(word) != text.size()) {
                return false;
            }
            for (int i = 0; i < text.size(); i++) {
                if (letterOf(word, i) != text.at(i)) {
                    return false;
                }
            }
            return true;
        }

        void empty() {
            size = 0;
        }

        /** Adds the words of a text that has no fault. */
        void addWordsOf(Text text) {
            boolean inWord = false;
            for (int i = 0; i < text.size(); i++) {
                if (!isLetter(text.at(i))) {
                    inWord = false;
                } else {
                    if (!inWord) {
                        beginWord();
                    }
                    inWord = true;
                    addLetter(text.at(i));
                }
            }
        }

        private void beginWord() {
            if (size < mostWords) {
                lengths.put(size, 0);
                size++;
            }
        }

        private void addLetter(int letter) {
            int last = size - 1;
            int length = lengthOf(last);
            if (last >= 0 && length < mostLetters) {
                letters.put(last * mostLetters + length, letter);
                lengths.put(last, length + 1);
            }
        }

        void remove(int word) {
            if (!has(word)) {
                return;
            }
            for (int to = word; to < size - 1; to++) {
                lengths.put(to, lengthOf(to + 1));
                for (int i = 0; i < mostLetters; i++) {
                    letters.put(to * mostLetters + i, letterOf(to + 1, i));
                }
            }
            size--;
        }

        void copyFrom(Words other) {
            letters.copyFrom(other.letters);
            lengths.copyFrom(other.lengths);
            size = Math.min(mostWords, other.size);
        }
    }

    /** All that a change can change and undo restores. */
    private static final class State {
        private final Words page;
        private final Words names;
        private final Words endings;
        private final Row letterWidths;
        private final Row settings;

        State() {
            page = new Words(MAX_WORDS, MAX_WORD_LETTERS);
            names = new Words(MAX_NAMES, MAX_NAME_LETTERS);
            endings = new Words(MAX_ENDINGS, MAX_ENDING_LETTERS);
            letterWidths = new Row(FIRST_WIDTHS);
            settings = new Row(FIRST_VALUES);
        }

        int lengthOfForm(int name, int ending) {
            return names.lengthOf(name) + endings.lengthOf(ending);
        }

        int widthOfForm(int name, int ending) {
            return names.widthOf(name, letterWidths) + endings.widthOf(ending, letterWidths);
        }

        boolean isForm(int word, int name, int ending) {
            int length = page.lengthOf(word);
            int stem = names.lengthOf(name);
            if (length != stem + endings.lengthOf(ending)) {
                return false;
            }
            for (int i = 0; i < length; i++) {
                int letter = i < stem ? names.letterOf(name, i) : endings.letterOf(ending, i - stem);
                if (page.letterOf(word, i) != letter) {
                    return false;
                }
            }
            return true;
        }

        void copyFrom(State other) {
            page.copyFrom(other.page);
            names.copyFrom(other.names);
            endings.copyFrom(other.endings);
            letterWidths.copyFrom(other.letterWidths);
            settings.copyFrom(other.settings);
        }
    }

    /** The states before the latest changes, the oldest one first. */
    private static final class History {
        private final State[] states;
        private int size;

        History() {
            states = new State[MAX_STATES];
            for (int i = 0; i < states.length; i++) {
                states[i] = new State();
            }
            size = 0;
        }

        int size() {
            return size;
        }

        void keep(State present) {
            if (size < states.length) {
                size++;
            } else {
                moveOldestToEnd();
            }
            State latest = latest();
            if (latest != null) {
                latest.copyFrom(present);
            }
        }

        void restore(State present) {
            State latest = latest();
            if (latest != null) {
                present.copyFrom(latest);
                size--;
            }
        }

        private State latest() {
            return size > 0 && size <= states.length ? states[size - 1] : null;
        }

        /** The oldest state is dropped by giving its rows to the new one. */
        private void moveOldestToEnd() {
            for (int i = 0; i + 1 < states.length; i++) {
                State oldest = states[i];
                states[i] = states[i + 1];
                states[i + 1] = oldest;
            }
        }
    }

    /** The forms of all names, numbered in their order, with their widths. */
    private static final class Forms {
        private final Row widths;
        private final Row ranks;
        private final Row sortedWidths;
        private int formsOfName;
        private int size;

        Forms() {
            widths = new Row(MAX_FORMS);
            ranks = new Row(MAX_FORMS);
            sortedWidths = new Row(MAX_FORMS);
            formsOfName = 1;
            size = 0;
        }

        int size() {
            return size;
        }

        int numberOf(int name, int ending) {
            return name * formsOfName + ending + 1;
        }

        int nameOf(int form) {
            return formsOfName < 1 ? 0 : form / formsOfName;
        }

        int endingOf(int form) {
            return formsOfName < 1 ? NO_ENDING : form % formsOfName - 1;
        }

        int widthOf(int form) {
            return widths.at(form);
        }

        /** How many forms come before this one by widths, those of one width in their order. */
        int rankOf(int form) {
            return ranks.at(form);
        }

        int widthAtRank(int rank) {
            return sortedWidths.at(rank);
        }

        void measure(State state) {
            formsOfName = state.endings.size() + 1;
            size = state.names.size() * formsOfName;
            for (int form = 0; form < size; form++) {
                widths.put(form, state.widthOfForm(nameOf(form), endingOf(form)));
            }
            for (int form = 0; form < size; form++) {
                int rank = formsAheadOf(form);
                ranks.put(form, rank);
                sortedWidths.put(rank, widths.at(form));
            }
        }

        private int formsAheadOf(int form) {
            int width = widths.at(form);
            int ahead = 0;
            for (int other = 0; other < size; other++) {
                int otherWidth = widths.at(other);
                if (otherWidth < width || (otherWidth == width && other < form)) {
                    ahead++;
                }
            }
            return ahead;
        }
    }

    /** The widths of the bars of all forms, in one mode. */
    private static final class Bars {
        private final Forms forms;
        private final Row widths;

        Bars(Forms forms) {
            this.forms = forms;
            widths = new Row(MAX_FORMS);
        }

        void draw(int mode, int step, int group) {
            for (int form = 0; form < forms.size(); form++) {
                widths.put(form, barWidth(form, mode, step, group));
            }
        }

        private int barWidth(int form, int mode, int step, int group) {
            switch (mode) {
                case BY_STEPS: return upToMultiple(forms.widthOf(form), step);
                case BY_GROUPS: return forms.widthAtRank(lastRankOfGroup(forms.rankOf(form), group));
                case ALL_ALIKE: return forms.widthAtRank(forms.size() - 1);
                default: return forms.widthOf(form);
            }
        }

        private static int upToMultiple(int width, int step) {
            return step < 1 ? width : (width + step - 1) / step * step;
        }

        /** Forms that do not fill a group belong to the one before, so this one may end with them. */
        private int lastRankOfGroup(int rank, int group) {
            if (group < 1) {
                return rank;
            }
            int last = rank / group * group + group - 1;
            boolean nextIsFull = last + group < forms.size();
            return nextIsFull ? last : forms.size() - 1;
        }

        int widthOf(int form) {
            return widths.at(form);
        }

        /** The names that may be under a bar of a width, as a bit mask. */
        int namesUnder(int width) {
            int names = 0;
            for (int form = 0; form < forms.size(); form++) {
                if (widths.at(form) == width) {
                    names |= 1 << forms.nameOf(form);
                }
            }
            return names;
        }

        /** The least gap of a name under a bar of a width, NO_GAP if it cannot be under it. */
        int leastGap(int name, int width) {
            int least = NO_GAP;
            for (int form = 0; form < forms.size(); form++) {
                if (forms.nameOf(form) == name && widths.at(form) == width) {
                    int gap = width - forms.widthOf(form);
                    least = least == NO_GAP ? gap : Math.min(least, gap);
                }
            }
            return least;
        }
    }

    /** The words of the page as they are shown: what is hidden, and where it stands. */
    private static final class Sheet {
        private final State state;
        private final Forms forms;
        private final Row formsOfWords;
        private final Row ownWidths;
        private final Row shownWidths;
        private final Row linesOfWords;
        private final Row places;
        private final Row firstWords;
        private int lines;

        Sheet(State state, Forms forms) {
            this.state = state;
            this.forms = forms;
            formsOfWords = new Row(MAX_WORDS);
            ownWidths = new Row(MAX_WORDS);
            shownWidths = new Row(MAX_WORDS);
            linesOfWords = new Row(MAX_WORDS);
            places = new Row(MAX_WORDS);
            firstWords = new Row(MAX_WORDS);
            lines = 0;
        }

        void hideWords() {
            for (int word = 0; word < state.page.size(); word++) {
                int found = NO_FORM;
                for (int form = 0; form < forms.size() && found == NO_FORM; form++) {
                    if (state.isForm(word, forms.nameOf(form), forms.endingOf(form))) {
                        found = form;
                    }
                }
                formsOfWords.put(word, found);
                ownWidths.put(word, state.page.widthOf(word, state.letterWidths));
            }
        }

        void flow(Bars bars) {
            int gap = state.settings.at(GAP);
            int lineWidth = state.settings.at(LINE_WIDTH);
            int used = 0;
            lines = 0;
            for (int word = 0; word < state.page.size(); word++) {
                int width = widthUnder(bars, word);
                int place = used + gap;
                if (lines == 0 || place + width > lineWidth) {
                    firstWords.put(lines, word);
                    lines++;
                    place = 0;
                }
                used = place + width;
                shownWidths.put(word, width);
                linesOfWords.put(word, lines - 1);
                places.put(word, place);
            }
        }

        /** The shown width that a word has with these bars. */
        private int widthUnder(Bars bars, int word) {
            return isHidden(word) ? bars.widthOf(formOf(word)) : ownWidthOf(word);
        }

        int formOf(int word) {
            return formsOfWords.at(word);
        }

        boolean isHidden(int word) {
            return formsOfWords.at(word) != NO_FORM;
        }

        int ownWidthOf(int word) {
            return ownWidths.at(word);
        }

        int shownWidthOf(int word) {
            return shownWidths.at(word);
        }

        int lineOf(int word) {
            return linesOfWords.at(word);
        }

        int placeOf(int word) {
            return places.at(word);
        }

        int lineCount() {
            return lines;
        }

        boolean hasLine(int line) {
            return line >= 0 && line < lines;
        }

        int firstWordOf(int line) {
            return firstWords.at(line);
        }

        int firstWordBehind(int line) {
            return line + 1 < lines ? firstWords.at(line + 1) : state.page.size();
        }

        /** The width of the words from first to the one ahead of behind, with the gaps between. */
        int widthBetween(int first, int behind) {
            int width = 0;
            for (int word = first; word < behind; word++) {
                width += shownWidthOf(word);
                if (word > first) {
                    width += state.settings.at(GAP);
                }
            }
            return width;
        }

        int barsBetween(int first, int behind) {
            int hidden = 0;
            for (int word = first; word < behind; word++) {
                if (isHidden(word)) {
                    hidden++;
                }
            }
            return hidden;
        }

        int wordsHiddenAs(int form) {
            int words = 0;
            for (int word = 0; word < state.page.size(); word++) {
                if (formOf(word) == form) {
                    words++;
                }
            }
            return words;
        }

        int sumOfShownWidths(Bars bars) {
            int sum = 0;
            for (int word = 0; word < state.page.size(); word++) {
                sum += widthUnder(bars, word);
            }
            return sum;
        }

        int sumOfGaps(Bars bars) {
            int sum = 0;
            for (int word = 0; word < state.page.size(); word++) {
                if (isHidden(word)) {
                    sum += bars.widthOf(formOf(word)) - forms.widthOf(formOf(word));
                }
            }
            return sum;
        }

        int differentBarWidths() {
            int different = 0;
            for (int word = 0; word < state.page.size(); word++) {
                if (isHidden(word) && !hasBarAhead(word)) {
                    different++;
                }
            }
            return different;
        }

        /** Whether a bar ahead of a word is as wide as the word is shown. */
        private boolean hasBarAhead(int word) {
            for (int ahead = 0; ahead < word; ahead++) {
                if (isHidden(ahead) && shownWidthOf(ahead) == shownWidthOf(word)) {
                    return true;
                }
            }
            return false;
        }

        int betrayedBars(Bars bars) {
            int betrayed = 0;
            for (int word = 0; word < state.page.size(); word++) {
                if (isHidden(word) && namesUnder(bars, word) == 1) {
                    betrayed++;
                }
            }
            return betrayed;
        }

        /** Whether under each bar of the page at least so many names may be. */
        boolean hasEnoughNames(Bars bars, int names) {
            for (int word = 0; word < state.page.size(); word++) {
                if (isHidden(word) && namesUnder(bars, word) < names) {
                    return false;
                }
            }
            return true;
        }

        /** How many names may be under the bar of a hidden word. */
        private int namesUnder(Bars bars, int word) {
            return Integer.bitCount(bars.namesUnder(bars.widthOf(formOf(word))));
        }
    }
}
