import java.util.ArrayList;

/** A desk for questions about written values; the document's numbered promises say what each call does. */
public final class PickDesk {
    public static final int NONE = -1;

    private static final int NULL = 0;
    private static final int FALSE = 1;
    private static final int TRUE = 2;
    private static final int NUMBER = 3;
    private static final int TEXT = 4;
    private static final int LIST = 5;
    private static final int OBJECT = 6;

    private static final char FIRST_LETTER = 32;
    private static final char LAST_LETTER = 126;
    private static final int MOST_LETTERS = 160;
    private static final int MOST_DIGITS = 6;
    private static final int MOST_IN_TEXT = 7;
    private static final int MOST_IN_KEY = 7;
    private static final int MOST_AROUND = 3;
    private static final int MOST_QUERIES = 12;
    private static final int MOST_STEPS = 12;
    private static final int MOST_SIDE_KEYS = 3;

    // Beyond every number that can be written, and so beyond every element of a list.
    private static final int FAR = 1000000;

    // No value nests deeper than the reader lets it (no query nests it further); this only keeps recursion low.
    private static final int DEEPEST = 8;

    private final Text text;
    private final ValueReader valueReader;
    private final QueryReader queryReader;
    private final Picker picker;
    private final Query[] queries;
    private int queryCount;
    private Value document;
    private Value result;
    private final StringBuilder resultText;

    public PickDesk() {
        text = new Text();
        valueReader = new ValueReader(text);
        queryReader = new QueryReader(text);
        Value none = Value.ofKind(NULL);
        picker = new Picker(none);
        queries = new Query[MOST_QUERIES];
        queryCount = 0;
        document = none;
        result = none;
        resultText = new StringBuilder();
        none.write(resultText, 0);
    }

    public int letter(int c) throws IllegalArgumentException, IllegalStateException {
        if (c < FIRST_LETTER || c > LAST_LETTER) {
            throw new IllegalArgumentException();
        }
        if (text.isFull()) {
            throw new IllegalStateException();
        }
        text.add((char) c);
        return text.length;
    }

    public int load() {
        Value value = valueReader.readValue(0);
        int wrong = text.endReading();
        if (wrong != NONE) {
            return -1 - wrong;
        }
        document = value;
        return value.count(0);
    }

    public int query() throws IllegalStateException {
        if (queryCount >= MOST_QUERIES) {
            throw new IllegalStateException();
        }
        Query read = queryReader.read();
        int wrong = text.endReading();
        if (wrong != NONE) {
            return -1 - wrong;
        }
        queries[queryCount] = read;
        queryCount++;
        return queryCount - 1;
    }

    public int run(int q) throws IllegalArgumentException {
        if (q < 0 || q >= queryCount) {
            throw new IllegalArgumentException();
        }
        result = picker.answer(queries[q], document);
        resultText.setLength(0);
        result.write(resultText, 0);
        return picker.failure;
    }

    public int keep() {
        document = result;
        return document.kind;
    }

    public int result(int what) {
        switch (what) {
            case 0:
                return result.kind;
            case 1:
                return result.kind == NUMBER ? result.number : result.extent();
            case 2:
                return resultText.length();
            case 3:
                return result.count(0);
            default:
                return NONE;
        }
    }

    public int written(int i) {
        if (i < 0 || i >= resultText.length()) {
            return NONE;
        }
        return resultText.charAt(i);
    }

    public int about(int what) {
        switch (what) {
            case 0:
                return text.length;
            case 1:
                return queryCount;
            case 2:
                return document.kind;
            case 3:
                return document.count(0);
            default:
                return NONE;
        }
    }

    /** A value of any kind; nothing changes it once the reader or the word that makes it is done. */
    private static final class Value {
        private final int kind;
        private final int number;
        private final String text;
        // An object's keys are texts, so that the word keys can give them as they are.
        private Value[] keys;
        private Value[] items;
        private int size;

        private Value(int kind, int number, String text, int room) {
            this.kind = kind;
            this.number = number;
            this.text = text;
            this.keys = new Value[kind == OBJECT ? room : 0];
            this.items = new Value[room];
            this.size = 0;
        }

        static Value ofKind(int kind) {
            return new Value(kind, 0, "", 0);
        }

        static Value ofNumber(int number) {
            return new Value(NUMBER, number, "", 0);
        }

        static Value ofText(String text) {
            return new Value(TEXT, 0, text, 0);
        }

        static Value ofList(int room) {
            return new Value(LIST, 0, "", room);
        }

        void add(Value item) {
            if (size == items.length) {
                items = widened(items);
            }
            items[size] = item;
            size++;
        }

        void addUnlessNull(Value item) {
            if (item.kind != NULL) {
                add(item);
            }
        }

        /** The item comes to the end, and changes places with its neighbours until it is where it should be. */
        void insert(int place, Value item) {
            add(item);
            for (int i = size - 1; i > place && i > 0; i--) {
                items[i] = items[i - 1];
                items[i - 1] = item;
            }
        }

        /** A key that comes again keeps its first place. */
        void put(String key, Value item) {
            for (int i = 0; i < size && i < keys.length; i++) {
                if (keys[i].text.equals(key)) {
                    items[i] = item;
                    return;
                }
            }
            if (size == keys.length) {
                keys = widened(keys);
            }
            keys[size] = ofText(key);
            add(item);
        }

        private static Value[] widened(Value[] row) {
            Value[] wider = new Value[2 * row.length + 2];
            System.arraycopy(row, 0, wider, 0, row.length);
            return wider;
        }

        Value at(String key, Value otherwise) {
            for (int i = 0; i < size && i < keys.length; i++) {
                if (keys[i].text.equals(key)) {
                    return items[i];
                }
            }
            return otherwise;
        }

        Value element(int number, Value otherwise) {
            int place = number < 0 ? number + size : number;
            return kind == LIST && place >= 0 && place < size ? items[place] : otherwise;
        }

        int extent() {
            return kind == TEXT ? text.length() : size;
        }

        boolean countsAsTrue() {
            return kind == TRUE || kind == NUMBER || extent() > 0;
        }

        private int count(int depth) {
            int values = 1;
            for (int i = 0; i < size && depth < DEEPEST; i++) {
                values += items[i].count(depth + 1);
            }
            return values;
        }

        private boolean same(Value other, int depth) {
            if (kind != other.kind || number != other.number || size != other.size || depth > DEEPEST) {
                return false;
            }
            boolean same = text.equals(other.text);
            for (int i = 0; i < size && same; i++) {
                Value partner = kind == OBJECT ? other.at(keys[i].text, null) : other.items[i];
                same = partner != null && items[i].same(partner, depth + 1);
            }
            return same;
        }

        /** Below, at or above 0, as this stands before, with or behind the other one of its kind. */
        int order(Value other) {
            if (kind == NUMBER) {
                return Integer.compare(number, other.number);
            }
            int both = Math.min(text.length(), other.text.length());
            for (int i = 0; i < both; i++) {
                if (text.charAt(i) != other.text.charAt(i)) {
                    return Integer.compare(text.charAt(i), other.text.charAt(i));
                }
            }
            return Integer.compare(text.length(), other.text.length());
        }

        private void write(StringBuilder out, int depth) {
            switch (kind) {
                case FALSE:
                    out.append('f');
                    break;
                case TRUE:
                    out.append('t');
                    break;
                case NUMBER:
                    out.append(number);
                    break;
                case TEXT:
                    out.append('\'');
                    out.append(text);
                    out.append('\'');
                    break;
                case LIST:
                    out.append('[');
                    writeItems(out, depth);
                    out.append(']');
                    break;
                case OBJECT:
                    out.append('{');
                    writeItems(out, depth);
                    out.append('}');
                    break;
                default:
                    out.append('n');
                    break;
            }
        }

        private void writeItems(StringBuilder out, int depth) {
            for (int i = 0; i < size && depth < DEEPEST; i++) {
                if (i > 0) {
                    out.append(',');
                }
                if (kind == OBJECT) {
                    out.append(keys[i].text);
                    out.append(':');
                }
                items[i].write(out, depth + 1);
            }
        }
    }

    /**
     * The text at hand, and the place where a reader is in it. The first wrong place stays, and from then on
     * a reader finds only the end: so it needs no look at errors of its own to come to its end.
     */
    private static final class Text {
        private static final char END = 0;

        private final char[] letters;
        private int length;
        private int place;
        private int wrong;
        private final StringBuilder scratch;

        Text() {
            letters = new char[MOST_LETTERS];
            length = 0;
            place = 0;
            wrong = NONE;
            scratch = new StringBuilder();
        }

        boolean isFull() {
            return length >= letters.length;
        }

        void add(char c) {
            if (length < letters.length) {
                letters[length] = c;
                length++;
            }
        }

        /** Makes the text empty, and answers the wrong place or NONE. */
        int endReading() {
            if (place < length) {
                wrongAt(place);
            }
            int found = wrong;
            length = 0;
            place = 0;
            wrong = NONE;
            return found;
        }

        char here() {
            return wrong == NONE && place < length ? letters[place] : END;
        }

        void wrongAt(int at) {
            if (wrong == NONE) {
                wrong = at;
            }
        }

        boolean take(char c) {
            if (here() != c) {
                return false;
            }
            place++;
            return true;
        }

        void must(char c) {
            if (here() == c) {
                place++;
            } else {
                wrongAt(place);
            }
        }

        static boolean isKeyLetter(char c) {
            return c >= 'a' && c <= 'z';
        }

        static boolean isDigit(char c) {
            return c >= '0' && c <= '9';
        }

        static boolean startsNumber(char c) {
            return c == '-' || c >= '0' && c <= '9';
        }

        String readKey() {
            scratch.setLength(0);
            for (int i = 0; i < MOST_IN_KEY && isKeyLetter(here()); i++) {
                scratch.append(here());
                place++;
            }
            if (scratch.length() == 0 || isKeyLetter(here())) {
                wrongAt(place);
            }
            return scratch.toString();
        }

        int readNumber() {
            boolean below = here() == '-';
            if (below) {
                place++;
            }
            int digits = 0;
            int number = 0;
            for (; digits < MOST_DIGITS && isDigit(here()); digits++) {
                number = number * 10 + (here() - '0');
                place++;
            }
            if (digits == 0 || isDigit(here())) {
                wrongAt(place);
            }
            return below ? -number : number;
        }

        /** What stands between two ' : the reader has taken the first one, as it tells a text by it. */
        String readQuoted() {
            scratch.setLength(0);
            for (int i = 0; i < MOST_IN_TEXT && here() != '\'' && here() != END; i++) {
                scratch.append(here());
                place++;
            }
            if (here() == '\'') {
                place++;
            } else {
                wrongAt(place);
            }
            return scratch.toString();
        }
    }

    /** Reads the text as a value. */
    private static final class ValueReader {
        private final Text text;

        ValueReader(Text text) {
            this.text = text;
        }

        private Value readValue(int around) {
            char first = text.here();
            if (Text.startsNumber(first)) {
                return Value.ofNumber(text.readNumber());
            }
            if (text.take('\'')) {
                return Value.ofText(text.readQuoted());
            }
            if (around <= MOST_AROUND && text.take('[')) {
                return readList(around);
            }
            if (around <= MOST_AROUND && text.take('{')) {
                return readObject(around);
            }
            return readName();
        }

        private Value readName() {
            if (text.take('f')) {
                return Value.ofKind(FALSE);
            }
            if (text.take('t')) {
                return Value.ofKind(TRUE);
            }
            text.must('n');
            return Value.ofKind(NULL);
        }

        private Value readList(int around) {
            Value list = Value.ofList(0);
            if (text.take(']')) {
                return list;
            }
            for (int i = 0; i < MOST_LETTERS; i++) {
                list.add(readValue(around + 1));
                if (!text.take(',')) {
                    break;
                }
            }
            text.must(']');
            return list;
        }

        private Value readObject(int around) {
            Value object = Value.ofKind(OBJECT);
            if (text.take('}')) {
                return object;
            }
            for (int i = 0; i < MOST_LETTERS; i++) {
                String key = text.readKey();
                text.must(':');
                object.put(key, readValue(around + 1));
                if (!text.take(',')) {
                    break;
                }
            }
            text.must('}');
            return object;
        }
    }

    /** A query that has been read: its stages, one after the other. */
    private static final class Query {
        private final ArrayList<Stage> stages;

        Query() {
            stages = new ArrayList<>();
        }
    }

    /** A word with its key ("" if it has none), or steps: those have no word. */
    private static final class Stage {
        private Word word;
        private String key;
        private final ArrayList<Step> steps;

        Stage() {
            word = null;
            key = "";
            steps = new ArrayList<>();
        }
    }

    /** One step. All that project go over their elements as a slice does: if nothing else is said, over all of them. */
    private static final class Step {
        private static final int KEY = 0;
        private static final int INDEX = 1;
        private static final int SLICE = 2;
        private static final int VALUES = 3;
        private static final int FILTER = 4;
        private static final int FLATTEN = 5;

        private static final int NO_SIGN = 0;
        private static final int SAME = 1;
        private static final int OTHER = 2;
        private static final int LESS = 3;
        private static final int LESS_OR_SAME = 4;
        private static final int MORE = 5;
        private static final int MORE_OR_SAME = 6;

        private final int kind;
        private String key;
        private int from;
        private int end;
        private int by;
        private Side left;
        private int sign;
        private Side right;

        private Step(int kind) {
            this.kind = kind;
            key = "";
            from = 0;
            end = FAR;
            by = 1;
            left = null;
            sign = NO_SIGN;
            right = null;
        }

        static Step ofKind(int kind) {
            return new Step(kind);
        }

        static Step ofKey(String key) {
            Step step = new Step(KEY);
            step.key = key;
            return step;
        }

        static Step ofIndex(int index) {
            Step step = new Step(INDEX);
            step.from = index;
            return step;
        }

        static Step ofSlice(int from, int end, int by) {
            Step step = new Step(SLICE);
            step.from = from;
            step.end = end;
            step.by = by;
            return step;
        }

        static Step ofCondition(Side left, int sign, Side right) {
            Step step = new Step(FILTER);
            step.left = left;
            step.sign = sign;
            step.right = right;
            return step;
        }

        int takes() {
            return kind == VALUES ? OBJECT : LIST;
        }

        /** The place that a number said in a slice means in a list of so many elements. */
        int bound(int said, int size) {
            int place = said < 0 ? said + size : said;
            int least = by > 0 ? 0 : -1;
            int most = by > 0 ? size : size - 1;
            return Math.max(least, Math.min(most, place));
        }
    }

    /** A side of a condition: a value that was said, or else keys from the element on. */
    private static final class Side {
        private final Value said;
        private final Value[] keys;
        private int size;

        Side(Value said) {
            this.said = said;
            this.keys = new Value[said == null ? MOST_SIDE_KEYS : 0];
            this.size = 0;
        }

        boolean isFull() {
            return size >= keys.length;
        }

        void add(Value key) {
            if (size < keys.length) {
                keys[size] = key;
                size++;
            }
        }
    }

    /** The nine words, with a bit for each kind of value that they take. */
    private enum Word {
        LENGTH("length", 1 << TEXT | 1 << LIST | 1 << OBJECT),
        KEYS("keys", 1 << OBJECT),
        VALUES("values", 1 << OBJECT),
        SORT("sort", 1 << LIST),
        REVERSE("reverse", 1 << TEXT | 1 << LIST),
        SUM("sum", 1 << LIST),
        MAX("max", 1 << LIST),
        MIN("min", 1 << LIST),
        TYPE("type", 1 << NULL | 1 << FALSE | 1 << TRUE | 1 << NUMBER | 1 << TEXT | 1 << LIST | 1 << OBJECT);

        private static final Word[] ALL = values();

        private final String spelling;
        private final int takes;

        Word(String spelling, int takes) {
            this.spelling = spelling;
            this.takes = takes;
        }

        /** The word that is spelled so, or null. */
        static Word spelled(String letters) {
            for (int i = 0; i < ALL.length; i++) {
                if (ALL[i].spelling.equals(letters)) {
                    return ALL[i];
                }
            }
            return null;
        }

        boolean takesKind(int kind) {
            return (takes >> kind & 1) == 1;
        }
    }

    /** Reads the text as a query. */
    private static final class QueryReader {
        private final Text text;
        private int steps;

        QueryReader(Text text) {
            this.text = text;
            this.steps = 0;
        }

        Query read() {
            steps = 0;
            Query query = new Query();
            for (int i = 0; i < MOST_LETTERS; i++) {
                query.stages.add(readStage());
                if (!text.take('|')) {
                    break;
                }
            }
            return query;
        }

        private Stage readStage() {
            Stage stage = new Stage();
            if (Text.isKeyLetter(text.here())) {
                readWordOrKey(stage);
            } else if (text.here() != '[') {
                text.must('@');
            }
            for (int i = 0; i < MOST_LETTERS && stage.word == null; i++) {
                if (text.here() == '[') {
                    readBrackets(stage);
                } else if (text.here() == '.') {
                    readDot(stage);
                } else {
                    break;
                }
            }
            return stage;
        }

        private void countStep(int at) {
            steps++;
            if (steps > MOST_STEPS) {
                text.wrongAt(at);
            }
        }

        private void readWordOrKey(Stage stage) {
            int at = text.place;
            String letters = text.readKey();
            if (text.take('(')) {
                readWord(stage, letters, at);
            } else {
                countStep(at);
                stage.steps.add(Step.ofKey(letters));
            }
        }

        private void readWord(Stage stage, String letters, int at) {
            stage.word = Word.spelled(letters);
            if (stage.word == null) {
                text.wrongAt(at);
            }
            if (stage.word == Word.SORT && text.here() != ')') {
                stage.key = text.readKey();
            }
            text.must(')');
        }

        private void readDot(Stage stage) {
            countStep(text.place);
            text.must('.');
            if (text.take('*')) {
                stage.steps.add(Step.ofKind(Step.VALUES));
            } else {
                stage.steps.add(Step.ofKey(text.readKey()));
            }
        }

        private void readBrackets(Stage stage) {
            countStep(text.place);
            text.must('[');
            if (text.here() == ']') {
                stage.steps.add(Step.ofKind(Step.FLATTEN));
            } else if (text.take('*')) {
                stage.steps.add(Step.ofKind(Step.SLICE));
            } else if (text.take('?')) {
                stage.steps.add(readCondition());
            } else {
                stage.steps.add(readIndexOrSlice());
            }
            text.must(']');
        }

        private Step readIndexOrSlice() {
            boolean fromSaid = text.here() != ':';
            int from = fromSaid ? text.readNumber() : 0;
            if (!text.take(':')) {
                return Step.ofIndex(from);
            }
            boolean endSaid = Text.startsNumber(text.here());
            int end = endSaid ? text.readNumber() : 0;
            int by = 1;
            if (text.take(':') && Text.startsNumber(text.here())) {
                by = readSliceStep();
            }
            int first = by > 0 ? 0 : FAR;
            int last = by > 0 ? FAR : -FAR;
            return Step.ofSlice(fromSaid ? from : first, endSaid ? end : last, by);
        }

        private int readSliceStep() {
            int at = text.place;
            int by = text.readNumber();
            if (by == 0) {
                text.wrongAt(at);
            }
            return by;
        }

        private Step readCondition() {
            Side left = readSide();
            int sign = readSign();
            return Step.ofCondition(left, sign, sign == Step.NO_SIGN ? null : readSide());
        }

        private int readSign() {
            if (text.take('=')) {
                text.must('=');
                return Step.SAME;
            }
            if (text.take('!')) {
                text.must('=');
                return Step.OTHER;
            }
            if (text.take('<')) {
                return text.take('=') ? Step.LESS_OR_SAME : Step.LESS;
            }
            if (text.take('>')) {
                return text.take('=') ? Step.MORE_OR_SAME : Step.MORE;
            }
            return Step.NO_SIGN;
        }

        private Side readSide() {
            if (Text.startsNumber(text.here())) {
                return new Side(Value.ofNumber(text.readNumber()));
            }
            if (text.take('\'')) {
                return new Side(Value.ofText(text.readQuoted()));
            }
            Side side = new Side(null);
            if (!text.take('@')) {
                side.add(Value.ofText(text.readKey()));
            }
            for (int i = 0; i <= MOST_SIDE_KEYS && text.take('.'); i++) {
                if (side.isFull()) {
                    text.wrongAt(text.place);
                }
                side.add(Value.ofText(text.readKey()));
            }
            return side;
        }
    }

    /** Answers queries: goes through their stages and steps. */
    private static final class Picker {
        // One NULL for all, as a query can come upon it once for each element and step.
        private final Value none;
        private final Words words;
        private int failure;

        Picker(Value none) {
            this.none = none;
            this.words = new Words(none);
            this.failure = 0;
        }

        /** What the query gives of the value; failure tells then whether it failed. */
        Value answer(Query query, Value value) {
            failure = 0;
            Value given = value;
            for (int i = 0; i < query.stages.size(); i++) {
                Stage stage = query.stages.get(i);
                if (stage.word == null) {
                    given = followParts(stage, given);
                } else {
                    failure = words.failure(stage.word, given, stage.key);
                    if (failure != 0) {
                        return none;
                    }
                    given = words.give(stage.word, given, stage.key);
                }
            }
            return given;
        }

        /** Each part but the first begins with its [] here, which projects like [*] once the list is flat. */
        private Value followParts(Stage stage, Value value) {
            Value given = value;
            int start = 0;
            int size = stage.steps.size();
            for (int end = 1; end <= size; end++) {
                if (end == size || stage.steps.get(end).kind == Step.FLATTEN) {
                    given = follow(stage, start, end, given);
                    start = end;
                }
            }
            return given;
        }

        /** What the steps from i to the end of their part give; the most steps of a query keep this from going deep. */
        private Value follow(Stage stage, int i, int end, Value value) {
            if (i < 0 || i >= end || i >= stage.steps.size()) {
                return value;
            }
            Step step = stage.steps.get(i);
            if (step.kind == Step.KEY) {
                return follow(stage, i + 1, end, value.at(step.key, none));
            }
            if (step.kind == Step.INDEX) {
                return follow(stage, i + 1, end, value.element(step.from, none));
            }
            if (value.kind != step.takes()) {
                return none;
            }
            Value row = step.kind == Step.FLATTEN ? flat(value) : value;
            Value list = Value.ofList(row.size);
            int place = step.bound(step.from, row.size);
            int bound = step.bound(step.end, row.size);
            for (int k = 0; k < row.size && (step.by > 0 ? place < bound : place > bound); k++) {
                Value item = row.items[place];
                if (step.kind != Step.FILTER || holds(step, item)) {
                    list.addUnlessNull(follow(stage, i + 1, end, item));
                }
                place += step.by;
            }
            return list;
        }

        private Value flat(Value list) {
            Value flat = Value.ofList(list.size);
            for (int i = 0; i < list.size; i++) {
                Value item = list.items[i];
                if (item.kind != LIST) {
                    flat.add(item);
                }
                for (int k = 0; k < item.size && item.kind == LIST; k++) {
                    flat.add(item.items[k]);
                }
            }
            return flat;
        }

        private boolean holds(Step step, Value item) {
            Value left = sideValue(step.left, item);
            if (step.sign == Step.NO_SIGN) {
                return left.countsAsTrue();
            }
            Value right = sideValue(step.right, item);
            if (step.sign == Step.SAME || step.sign == Step.OTHER) {
                return left.same(right, 0) == (step.sign == Step.SAME);
            }
            if (left.kind != NUMBER || right.kind != NUMBER) {
                return false;
            }
            switch (step.sign) {
                case Step.LESS:
                    return left.number < right.number;
                case Step.LESS_OR_SAME:
                    return left.number <= right.number;
                case Step.MORE:
                    return left.number > right.number;
                default:
                    return left.number >= right.number;
            }
        }

        private Value sideValue(Side side, Value item) {
            if (side == null) {
                return none;
            }
            if (side.said != null) {
                return side.said;
            }
            Value value = item;
            for (int i = 0; i < side.size; i++) {
                value = value.at(side.keys[i].text, none);
            }
            return value;
        }
    }

    /** What the words do; each wants a look at failure first. */
    private static final class Words {
        private static final int WRONG_KIND = 1;
        private static final int WRONG_ELEMENT = 2;

        private final Value none;

        Words(Value none) {
            this.none = none;
        }

        int failure(Word word, Value value, String key) {
            if (!word.takesKind(value.kind)) {
                return WRONG_KIND;
            }
            boolean fits = true;
            if (word == Word.SUM) {
                fits = allOfKind(value, key, NUMBER);
            }
            if (word == Word.SORT || word == Word.MAX || word == Word.MIN) {
                fits = allOfKind(value, key, NUMBER) || allOfKind(value, key, TEXT);
            }
            return fits ? 0 : WRONG_ELEMENT;
        }

        private boolean allOfKind(Value list, String key, int kind) {
            for (int i = 0; i < list.size; i++) {
                if (rank(list.items[i], key).kind != kind) {
                    return false;
                }
            }
            return true;
        }

        /** What an element is sorted by. */
        private Value rank(Value item, String key) {
            return key.isEmpty() ? item : item.at(key, none);
        }

        Value give(Word word, Value value, String key) {
            switch (word) {
                case LENGTH:
                    return Value.ofNumber(value.extent());
                case KEYS:
                    return listOf(value.keys, value.size);
                case VALUES:
                    return listOf(value.items, value.size);
                case SORT:
                    return sorted(value, key);
                case REVERSE:
                    return value.kind == TEXT ? Value.ofText(reversed(value.text)) : reversedList(value);
                case SUM:
                    return Value.ofNumber(sum(value));
                case MAX:
                    return outermost(value, 1);
                case MIN:
                    return outermost(value, -1);
                default:
                    return Value.ofText(typeOf(value.kind));
            }
        }

        private Value listOf(Value[] row, int size) {
            Value list = Value.ofList(size);
            for (int i = 0; i < size && i < row.length; i++) {
                list.add(row[i]);
            }
            return list;
        }

        private Value sorted(Value list, String key) {
            Value sorted = Value.ofList(list.size);
            for (int i = 0; i < list.size; i++) {
                sorted.insert(placeIn(sorted, rank(list.items[i], key), key), list.items[i]);
            }
            return sorted;
        }

        /** Behind all that are equal, so that these keep the order they had. */
        private int placeIn(Value sorted, Value rank, String key) {
            int low = 0;
            int high = sorted.size;
            for (int i = 0; i < sorted.size && low < high; i++) {
                int middle = (low + high) / 2;
                if (rank(sorted.items[middle], key).order(rank) > 0) {
                    high = middle;
                } else {
                    low = middle + 1;
                }
            }
            return low;
        }

        private Value reversedList(Value list) {
            Value reversed = Value.ofList(list.size);
            for (int i = list.size - 1; i >= 0; i--) {
                reversed.add(list.items[i]);
            }
            return reversed;
        }

        private String reversed(String text) {
            char[] letters = text.toCharArray();
            for (int i = 0; i < letters.length; i++) {
                letters[i] = text.charAt(letters.length - 1 - i);
            }
            return new String(letters);
        }

        private int sum(Value list) {
            int sum = 0;
            for (int i = 0; i < list.size; i++) {
                sum += list.items[i].number;
            }
            return sum;
        }

        /** The greatest with direction 1, the least with -1. */
        private Value outermost(Value list, int direction) {
            Value found = list.size == 0 ? none : list.items[0];
            for (int i = 1; i < list.size; i++) {
                if (direction * list.items[i].order(found) > 0) {
                    found = list.items[i];
                }
            }
            return found;
        }

        private String typeOf(int kind) {
            switch (kind) {
                case NULL:
                    return "none";
                case FALSE:
                case TRUE:
                    return "truth";
                case NUMBER:
                    return "number";
                case TEXT:
                    return "text";
                case LIST:
                    return "list";
                default:
                    return "object";
            }
        }
    }
}
