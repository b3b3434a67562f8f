/** Ten cells with values and formulas, whose answers are remembered and looked at again only as far as needed. */
public final class RememberedCells {
    public static final int INVALID_ARGUMENT = -2000000001;
    public static final int NOT_POSSIBLE = -2000000002;
    public static final int LIMIT_REACHED = -2000000003;
    public static final int NOT_FOUND = -2000000004;

    private static final int CELLS = 10;
    private static final int GREATEST_VALUE = 99999;
    private static final int GREATEST_ANSWER = 1000000000;
    private static final int HISTORY_STATES = 4;
    private static final int TEXT_LENGTH = 60;
    private static final int NUMBER_DIGITS = 5;

    /** Stands for the answer "too great": no other answer comes near it. */
    private static final int TOO_GREAT = 2000000000;
    /** Stands for a cell, or an operator, that is not there. */
    private static final int NONE = -1;
    /** Stands for the revision of a cell that comes to a ring. */
    private static final int RING = -1;

    private static final int VALUE = -1;
    private static final int SUM = 0;
    private static final int DIFFERENCE = 1;
    private static final int PRODUCT = 2;
    private static final int GREATER = 3;
    private static final int CHOICE = 4;

    private final State present = new State();
    /** What is tried out before it counts, or without ever counting. */
    private final State trial = new State();
    private final History history = new History();
    private final Text text = new Text();
    /** The definition that a call gives, made once so that calls make no objects. */
    private final Definition given = new Definition();

    public RememberedCells() {
    }

    // ---- definitions

    public int define(int cell, int value) {
        if (!isCell(cell) || !isValue(value)) {
            return INVALID_ARGUMENT;
        }
        history.record(present);
        given.setValue(value);
        present.redefine(cell, given);
        return present.revision;
    }

    public int formula(int cell, int kind, int first, int second, int third) {
        if (!isCell(cell) || !isKind(kind) || !isCell(first) || !isCell(second) || !isThird(kind, third)) {
            return INVALID_ARGUMENT;
        }
        history.record(present);
        given.setFormula(kind, first, second, third);
        present.redefine(cell, given);
        return present.revision;
    }

    public int cellOf(int cell, int what) {
        if (!isCell(cell) || !isWithin(what, 0, 4)) {
            return INVALID_ARGUMENT;
        }
        Definition definition = present.cells[cell].definition;
        boolean isFormula = definition.kind != VALUE;
        switch (what) {
            case 0:
                return definition.kind - VALUE;
            case 1:
                return isFormula ? NOT_FOUND : definition.value;
            case 2:
                return isFormula ? definition.first : NOT_FOUND;
            case 3:
                return isFormula ? definition.second : NOT_FOUND;
            default:
                return definition.kind == CHOICE ? definition.third : NOT_FOUND;
        }
    }

    // ---- answers

    public int ask(int cell) {
        if (!isCell(cell)) {
            return INVALID_ARGUMENT;
        }
        trial.copy(present);
        if (!trial.lookAt(cell)) {
            return NOT_POSSIBLE;
        }
        int answer = trial.cells[cell].told();
        trial.forgetBeyondBound();
        history.record(present);
        present.copy(trial);
        return answer;
    }

    public int fresh(int cell) {
        if (!isCell(cell)) {
            return INVALID_ARGUMENT;
        }
        trial.copy(present);
        return answerAfresh(cell);
    }

    public int cost(int cell, int what) {
        if (!isCell(cell) || !isWithin(what, 0, 2)) {
            return INVALID_ARGUMENT;
        }
        trial.copy(present);
        if (!trial.lookAt(cell)) {
            return NOT_POSSIBLE;
        }
        switch (what) {
            case 0:
                return trial.workedOut - present.workedOut;
            case 1:
                return trial.kept - present.kept;
            default:
                return trial.taken - present.taken;
        }
    }

    public int forget(int cell) {
        if (!isCell(cell)) {
            return INVALID_ARGUMENT;
        }
        if (!present.cells[cell].remembered) {
            return NOT_POSSIBLE;
        }
        history.record(present);
        present.forgetAnswer(cell);
        return present.rememberedAnswers();
    }

    public int bound(int bound) {
        if (!isWithin(bound, 0, CELLS)) {
            return INVALID_ARGUMENT;
        }
        history.record(present);
        int before = present.bound;
        present.bound = bound;
        return before;
    }

    public int rememberedOf(int cell, int what) {
        if (!isCell(cell) || !isWithin(what, 0, 6)) {
            return INVALID_ARGUMENT;
        }
        Cell asked = present.cells[cell];
        if (!asked.remembered) {
            return NOT_FOUND;
        }
        switch (what) {
            case 0:
                return asked.answer;
            case 1:
                return asked.changed;
            case 2:
                return asked.seen;
            case 3:
                return asked.secondUsed == NONE ? 1 : 2;
            case 4:
                return asked.definition.first;
            case 5:
                return asked.secondUsed == NONE ? NOT_FOUND : asked.secondUsed;
            default:
                return present.placeOf(cell);
        }
    }

    // ---- which cells

    public int which(int what) {
        if (!isWithin(what, 0, 4)) {
            return INVALID_ARGUMENT;
        }
        int set = 0;
        for (int cell = 0; cell < CELLS; cell++) {
            if (isOneOf(cell, what)) {
                set |= 1 << cell;
            }
        }
        return set;
    }

    public int used(int cell) {
        if (!isCell(cell)) {
            return INVALID_ARGUMENT;
        }
        return usedAfresh(cell);
    }

    public int usedBy(int cell) {
        if (!isCell(cell)) {
            return INVALID_ARGUMENT;
        }
        int set = 0;
        for (int other = 0; other < CELLS; other++) {
            int usedForOther = usedAfresh(other);
            if (usedForOther != NOT_POSSIBLE && (usedForOther & 1 << cell) != 0) {
                set |= 1 << other;
            }
        }
        return set;
    }

    public int would(int cell, int value, int asked) {
        if (!isCell(cell) || !isValue(value) || !isCell(asked)) {
            return INVALID_ARGUMENT;
        }
        trial.copy(present);
        given.setValue(value);
        trial.redefine(cell, given);
        return answerAfresh(asked);
    }

    public int count(int what) {
        switch (what) {
            case 0:
                return present.revision;
            case 1:
                return present.rememberedAnswers();
            case 2:
                return present.workedOut;
            case 3:
                return present.kept;
            case 4:
                return present.taken;
            case 5:
                return present.forgotten;
            case 6:
                return present.bound;
            case 7:
                return present.same;
            case 8:
                return history.size;
            case 9:
                return text.length;
            default:
                return INVALID_ARGUMENT;
        }
    }

    public int undo() {
        if (history.size == 0) {
            return NOT_POSSIBLE;
        }
        history.restoreLatestTo(present);
        return history.size;
    }

    // ---- texts

    public int type(int character) {
        if (!isWithin(character, 32, 126)) {
            return INVALID_ARGUMENT;
        }
        if (text.length >= TEXT_LENGTH) {
            return LIMIT_REACHED;
        }
        text.append((char) character);
        return text.length;
    }

    public int clearText() {
        int before = text.length;
        text.empty();
        return before;
    }

    public int fault(int what) {
        if (!isWithin(what, 0, 1)) {
            return INVALID_ARGUMENT;
        }
        int position = text.findFault();
        if (position == NONE) {
            return NOT_FOUND;
        }
        return what == 0 ? position : text.at - position;
    }

    public int play() {
        if (text.findFault() != NONE) {
            return NOT_POSSIBLE;
        }
        history.record(present);
        text.rewind();
        for (int i = 0; i < TEXT_LENGTH && text.hasMore(); i++) {
            if (text.readDefinition()) {
                present.redefine(text.cell, text.definition);
            }
        }
        return present.revision;
    }

    // ---- what several calls share

    private static boolean isWithin(int number, int least, int greatest) {
        return number >= least && number <= greatest;
    }

    private static boolean isCell(int cell) {
        return isWithin(cell, 0, CELLS - 1);
    }

    private static boolean isValue(int value) {
        return isWithin(value, -GREATEST_VALUE, GREATEST_VALUE);
    }

    private static boolean isKind(int kind) {
        return isWithin(kind, SUM, CHOICE);
    }

    private static boolean isThird(int kind, int third) {
        return kind == CHOICE ? isCell(third) : third == 0;
    }

    /** Works out a cell of the trial without what is remembered. */
    private int answerAfresh(int cell) {
        trial.dropAnswers();
        if (!trial.lookAt(cell)) {
            return NOT_POSSIBLE;
        }
        int answer = trial.cells[cell].told();
        return answer == TOO_GREAT ? LIMIT_REACHED : answer;
    }

    private int usedAfresh(int cell) {
        trial.copy(present);
        trial.dropAnswers();
        return trial.lookAt(cell) ? trial.lookedAt & ~(1 << cell) : NOT_POSSIBLE;
    }

    private boolean isOneOf(int cell, int what) {
        Cell asked = present.cells[cell];
        switch (what) {
            case 0:
                return asked.definition.kind != VALUE;
            case 1:
                return asked.remembered;
            case 2:
                return asked.remembered && asked.seen == present.revision;
            case 3:
                trial.copy(present);
                return answerAfresh(cell) == NOT_POSSIBLE;
            default:
                trial.copy(present);
                return answerAfresh(cell) == LIMIT_REACHED;
        }
    }

    /** What a cell is defined as; what is no part of it is 0, so that equal definitions have equal fields. */
    private static final class Definition {
        int kind = VALUE;
        int value;
        int first;
        int second;
        int third;

        void setValue(int number) {
            kind = VALUE;
            value = number;
            first = 0;
            second = 0;
            third = 0;
        }

        void setFormula(int newKind, int x, int y, int z) {
            kind = newKind;
            value = 0;
            first = x;
            second = y;
            third = z;
        }

        void copy(Definition other) {
            kind = other.kind;
            value = other.value;
            first = other.first;
            second = other.second;
            third = other.third;
        }

        boolean isLike(Definition other) {
            return kind == other.kind && value == other.value && first == other.first
                && second == other.second && third == other.third;
        }

        /** The cell that is used after the first one, which answered x. */
        int secondFor(int x) {
            if (kind != CHOICE) {
                return second;
            }
            if (x == TOO_GREAT) {
                return NONE;
            }
            return x > 0 ? second : third;
        }

        /** What the formula gives if the cells that it uses answer x and y. */
        int give(int x, int y) {
            if (x == TOO_GREAT || y == TOO_GREAT) {
                return TOO_GREAT;
            }
            // In long, for a product of two answers may lie beyond int.
            long result = y;
            switch (kind) {
                case SUM:
                    result = (long) x + y;
                    break;
                case DIFFERENCE:
                    result = (long) x - y;
                    break;
                case PRODUCT:
                    result = (long) x * y;
                    break;
                case GREATER:
                    result = Math.max(x, y);
                    break;
                default:
                    break;
            }
            return result < -GREATEST_ANSWER || result > GREATEST_ANSWER ? TOO_GREAT : (int) result;
        }
    }

    /** A cell with its remembered answer, if it has one. */
    private static final class Cell {
        final Definition definition = new Definition();
        int changed;
        boolean remembered;
        int answer;
        int seen;
        /** The first used cell is always the definition's first, so only this one is kept. */
        int secondUsed = NONE;
        int lastUse;
        /** Only within one asking, to tell a ring. */
        boolean beingLookedAt;

        void copy(Cell other) {
            definition.copy(other.definition);
            changed = other.changed;
            remembered = other.remembered;
            answer = other.answer;
            seen = other.seen;
            secondUsed = other.secondUsed;
            lastUse = other.lastUse;
            beingLookedAt = false;
        }

        int told() {
            return definition.kind == VALUE ? definition.value : answer;
        }
    }

    /** Everything but the text and the history. */
    private static final class State {
        final Cell[] cells = new Cell[CELLS];
        int revision;
        int bound = CELLS;
        int workedOut;
        int kept;
        int taken;
        int forgotten;
        int same;
        /** Numbers the uses, so that the answers can be told apart by their last ones. */
        int uses;
        /** The set of the cells that were looked at since this state was copied. */
        int lookedAt;

        State() {
            for (int i = 0; i < CELLS; i++) {
                cells[i] = new Cell();
            }
        }

        void copy(State other) {
            for (int i = 0; i < CELLS; i++) {
                cells[i].copy(other.cells[i]);
            }
            revision = other.revision;
            bound = other.bound;
            workedOut = other.workedOut;
            kept = other.kept;
            taken = other.taken;
            forgotten = other.forgotten;
            same = other.same;
            uses = other.uses;
            lookedAt = 0;
        }

        void redefine(int cell, Definition definition) {
            Cell defined = cells[cell];
            if (defined.definition.isLike(definition)) {
                return;
            }
            revision++;
            defined.definition.copy(definition);
            defined.changed = revision;
            defined.remembered = false;
        }

        int rememberedAnswers() {
            int number = 0;
            for (int i = 0; i < CELLS; i++) {
                if (cells[i].remembered) {
                    number++;
                }
            }
            return number;
        }

        /** How many remembered answers were used less recently than this one. */
        int placeOf(int cell) {
            int place = 0;
            for (int i = 0; i < CELLS; i++) {
                if (cells[i].remembered && cells[i].lastUse < cells[cell].lastUse) {
                    place++;
                }
            }
            return place;
        }

        void forgetAnswer(int cell) {
            cells[cell].remembered = false;
            forgotten++;
        }

        void forgetBeyondBound() {
            int tooMany = rememberedAnswers() - bound;
            for (int i = 0; i < tooMany; i++) {
                forgetOldest();
            }
        }

        private void forgetOldest() {
            int oldest = NONE;
            for (int i = 0; i < CELLS; i++) {
                if (cells[i].remembered && (oldest == NONE || cells[i].lastUse < cells[oldest].lastUse)) {
                    oldest = i;
                }
            }
            if (oldest != NONE) {
                forgetAnswer(oldest);
            }
        }

        /** Lets all answers go without counting them as forgotten. */
        void dropAnswers() {
            for (int i = 0; i < CELLS; i++) {
                cells[i].remembered = false;
            }
        }

        /** Tells whether the cell comes to no ring; if it does, this state is half changed and of no more use. */
        boolean lookAt(int cell) {
            return look(cell, 0) != RING;
        }

        /** Answers the revision at which the cell was changed, or RING. */
        private int look(int cell, int depth) {
            Cell looked = cells[cell];
            lookedAt |= 1 << cell;
            if (looked.definition.kind == VALUE) {
                return looked.changed;
            }
            if (looked.beingLookedAt || depth >= CELLS) {
                return RING;
            }
            if (looked.remembered && looked.seen == revision) {
                taken++;
            } else {
                looked.beingLookedAt = true;
                boolean found = bringUpToDate(looked, depth + 1);
                looked.beingLookedAt = false;
                if (!found) {
                    return RING;
                }
            }
            uses++;
            looked.lastUse = uses;
            return looked.changed;
        }

        /** Keeps the formula's answer or works it out; tells whether it came to no ring. */
        private boolean bringUpToDate(Cell looked, int depth) {
            if (!looked.remembered) {
                return workOut(looked, depth);
            }
            int change = lookForChange(looked, depth);
            if (change == RING) {
                return false;
            }
            if (change > looked.seen) {
                return workOut(looked, depth);
            }
            kept++;
            looked.seen = revision;
            return true;
        }

        /** Answers the revision at which the last used cell that had to be looked at was changed, or RING. */
        private int lookForChange(Cell looked, int depth) {
            int change = look(looked.definition.first, depth);
            if (change == RING || change > looked.seen || looked.secondUsed == NONE) {
                return change;
            }
            return look(looked.secondUsed, depth);
        }

        private boolean workOut(Cell looked, int depth) {
            Definition definition = looked.definition;
            if (look(definition.first, depth) == RING) {
                return false;
            }
            int x = cells[definition.first].told();
            int second = definition.secondFor(x);
            if (second == NONE) {
                remember(looked, TOO_GREAT, NONE);
                return true;
            }
            if (look(second, depth) == RING) {
                return false;
            }
            remember(looked, definition.give(x, cells[second].told()), second);
            return true;
        }

        private void remember(Cell looked, int answer, int secondUsed) {
            workedOut++;
            if (looked.remembered && looked.answer == answer) {
                same++;
            } else {
                looked.changed = revision;
            }
            looked.remembered = true;
            looked.answer = answer;
            looked.secondUsed = secondUsed;
            looked.seen = revision;
        }
    }

    /** The states before the latest changes, the oldest one first. */
    private static final class History {
        private final State[] states = new State[HISTORY_STATES];
        int size;

        History() {
            for (int i = 0; i < HISTORY_STATES; i++) {
                states[i] = new State();
            }
        }

        void record(State state) {
            if (size >= HISTORY_STATES) {
                dropOldest();
            }
            states[size].copy(state);
            size++;
        }

        /** The object of the oldest state is used again for the next one. */
        private void dropOldest() {
            State oldest = states[0];
            for (int i = 1; i < HISTORY_STATES; i++) {
                states[i - 1] = states[i];
            }
            states[HISTORY_STATES - 1] = oldest;
            size = HISTORY_STATES - 1;
        }

        void restoreLatestTo(State state) {
            if (size > 0) {
                size--;
                state.copy(states[size]);
            }
        }
    }

    /** The text, and the reading of its definitions; reading stops at the first character that does not fit. */
    private static final class Text {
        private final char[] characters = new char[TEXT_LENGTH];
        int length;
        /** Where reading stands. */
        int at;
        /** What was read last: the cell and what it is defined as. */
        int cell;
        final Definition definition = new Definition();

        void append(char character) {
            if (length < TEXT_LENGTH) {
                characters[length] = character;
                length++;
            }
        }

        void empty() {
            length = 0;
        }

        void rewind() {
            at = 0;
        }

        boolean hasMore() {
            return at < length;
        }

        /** Answers the position of the first faulty definition, where reading stands at what breaks it off, or NONE. */
        int findFault() {
            rewind();
            for (int i = 0; i < TEXT_LENGTH && hasMore(); i++) {
                int start = at;
                if (!readDefinition()) {
                    return start;
                }
            }
            return NONE;
        }

        boolean readDefinition() {
            cell = readLetter();
            if (cell == NONE || !readSign('=')) {
                return false;
            }
            int first = readLetter();
            boolean fits = first == NONE ? readNumber() : readFormula(first);
            return fits && readSign(';');
        }

        private boolean readFormula(int first) {
            int kind = readOperator();
            if (kind == NONE) {
                return false;
            }
            int second = readLetter();
            if (second == NONE) {
                return false;
            }
            int third = 0;
            if (kind == CHOICE) {
                third = readSign(':') ? readLetter() : NONE;
            }
            if (third == NONE) {
                return false;
            }
            definition.setFormula(kind, first, second, third);
            return true;
        }

        private boolean readNumber() {
            boolean negative = readSign('-');
            int number = 0;
            int digits = 0;
            while (digits < NUMBER_DIGITS && isWithin(character(), '0', '9')) {
                number = number * 10 + character() - '0';
                at++;
                digits++;
            }
            definition.setValue(negative ? -number : number);
            return digits > 0;
        }

        private int readOperator() {
            int kind = kindOf(character());
            if (kind != NONE) {
                at++;
            }
            return kind;
        }

        private static int kindOf(int operator) {
            switch (operator) {
                case '+':
                    return SUM;
                case '-':
                    return DIFFERENCE;
                case '*':
                    return PRODUCT;
                case '^':
                    return GREATER;
                case '?':
                    return CHOICE;
                default:
                    return NONE;
            }
        }

        /** Answers the cell that is told by the letter, or NONE. */
        private int readLetter() {
            int letter = character() - 'a';
            if (!isCell(letter)) {
                return NONE;
            }
            at++;
            return letter;
        }

        private boolean readSign(char sign) {
            if (character() != sign) {
                return false;
            }
            at++;
            return true;
        }

        /** The character at which reading stands, or NONE behind the end. */
        private int character() {
            return at >= 0 && at < length && at < TEXT_LENGTH ? characters[at] : NONE;
        }
    }
}
