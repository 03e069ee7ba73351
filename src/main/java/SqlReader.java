import java.util.Arrays;

/**
 * A reader of SQL: a text becomes a statement with a tree of typed nodes over the tables of a
 * catalog, or the first error of its syntax or meaning.
 */
public final class SqlReader {
    /** The types; ANY is that of NULL, and what is needed where every type would do. */
    private static final int ANY = 0;
    private static final int INT = 1;
    private static final int TEXT = 2;
    private static final int BOOL = 3;

    private static final int NO_STATEMENT = 1;
    private static final int MANY_NODES = 2;
    private static final int LONG_LIST = 3;
    private static final int NO_TABLE = 4;
    private static final int TABLE_TWICE = 5;
    private static final int NO_COLUMN = 6;
    private static final int SEVERAL_COLUMNS = 7;
    private static final int WRONG_TYPE = 8;
    private static final int WRONG_GROUP = 9;
    private static final int WRONG_FOR = 10;

    private static final int CREATE_TABLE = 1;
    private static final int CREATE_INDEX = 2;
    private static final int DROP_TABLE = 3;
    private static final int INSERT_ROWS = 4;
    private static final int INSERT_QUERY = 5;
    private static final int UPDATE = 6;
    private static final int DELETE = 7;
    private static final int QUERY = 8;
    private static final int BEGIN = 9;
    private static final int COMMIT = 10;
    private static final int ROLLBACK = 11;
    private static final int SAVEPOINT = 12;
    private static final int ROLLBACK_TO = 13;
    private static final int RELEASE = 14;
    private static final int LOCK = 15;
    private static final int PREPARE = 16;
    private static final int EXECUTE = 17;
    private static final int VACUUM = 18;
    private static final int CHECKPOINT = 19;

    private final Text typed = new Text();
    private final Catalog catalog = new Catalog();
    private final Tokens tokens = new Tokens();
    private final Nodes nodes = new Nodes();
    private final Lists lists = new Lists();
    private final Statement statement = new Statement();
    private final Parser parser = new Parser(tokens, nodes, lists, statement);
    private final Meaning meaning = new Meaning(catalog, tokens, nodes, lists, statement);

    public SqlReader() {
    }

    public boolean type(long v, int n) {
        return typed.append(v, n);
    }

    public int table() {
        int answer = catalog.addTable(typed);
        typed.clear();
        return answer;
    }

    public int column(int table, int type) {
        int answer = catalog.addColumn(table, type, typed);
        typed.clear();
        return answer;
    }

    public int read() {
        forget();
        boolean clean = tokens.cut(typed);
        typed.clear();
        boolean whole = clean && parser.begins() && parser.deed() && parser.ends();
        int error = !whole ? NO_STATEMENT
            : nodes.isOver() ? MANY_NODES
            : lists.isOver() ? LONG_LIST
            : meaning.firstError();
        if (error > 0) {
            forget();
            return -error;
        }
        return statement.kind;
    }

    public int node(int k, int what) {
        switch (what) {
            case 0: return nodes.kindOf(k);
            case 1: return nodes.firstOf(k);
            case 2: return nodes.secondOf(k);
            case 3: return nodes.typeOf(k);
            default: return -1;
        }
    }

    public long value(int k) {
        int kind = nodes.kindOf(k);
        if (kind == Nodes.NUMBER) {
            return tokens.numberOf(nodes.spanOf(k));
        }
        return kind == Nodes.TEXT ? Text.sizeOf(nodes.spanOf(k)) : 0;
    }

    public int letter(int k, int i) {
        return nodes.kindOf(k) == Nodes.TEXT ? tokens.text().letterAt(nodes.spanOf(k), i) : -1;
    }

    public int count(int what) {
        switch (what) {
            case 0: return nodes.size();
            case 1: return lists.size(Lists.ITEMS);
            case 2: return lists.size(Lists.GROUPS);
            case 3: return lists.size(Lists.ORDERS);
            case 4: return lists.size(Lists.TABLES);
            case 5: return lists.size(Lists.SET_NODES);
            case 6: return lists.size(Lists.ROW_ENDS);
            case 7: return lists.size(Lists.COLUMN_TYPES);
            case 8: return lists.size(Lists.PARAMETERS);
            case 9: return lists.size(Lists.ARGUMENTS);
            case 10: return statement.mode;
            case 11: return statement.distinct ? 1 : 0;
            case 12: return statement.limit;
            case 13: return statement.where;
            case 14: return statement.kind == PREPARE ? statement.deed : 0;
            case 15: return statement.table;
            case 16: return statement.column;
            case 17: return statement.unique ? 1 : 0;
            default: return -1;
        }
    }

    public int list(int which, int i) {
        return which <= Lists.LAST_TOLD ? lists.at(which, i) : -1;
    }

    public int name(int k, int i) {
        if (k == -1) {
            return tokens.text().letterAt(statement.title, i);
        }
        boolean told = statement.kind == CREATE_TABLE;
        return told ? tokens.text().letterAt(lists.at(Lists.COLUMN_NAMES, k), i) : -1;
    }

    private void forget() {
        nodes.clear();
        lists.clear();
        statement.clear();
    }

    /**
     * Bytes in a row, 2000 at most. A part of them is told by its SPAN: where it starts, and in
     * the lowest five bits its size. A span below 0 is none.
     */
    private static final class Text {
        static final int MOST = 2000;
        static final int LONGEST_SPAN = 31;
        static final int LONGEST_NAME = 16;
        private static final int SIZE_BITS = 5;

        private final byte[] bytes = new byte[MOST];
        private int size;

        static int span(int start, int size) {
            return start << SIZE_BITS | size;
        }

        static int startOf(int span) {
            return span >> SIZE_BITS;
        }

        static int sizeOf(int span) {
            return span < 0 ? 0 : span & LONGEST_SPAN;
        }

        static boolean isSmall(int letter) {
            return letter >= 'a' && letter <= 'z';
        }

        static boolean isDigit(int letter) {
            return letter >= '0' && letter <= '9';
        }

        static boolean isOfName(int letter) {
            return isSmall(letter) || isDigit(letter) || letter == '_';
        }

        int size() {
            return size;
        }

        void clear() {
            size = 0;
        }

        int at(int i) {
            return i < 0 || i >= size ? -1 : bytes[i] & 255;
        }

        void put(int i, int letter) {
            if (i >= 0 && i < size) {
                bytes[i] = (byte) letter;
            }
        }

        boolean append(long v, int n) {
            if (n < 1 || n > 8 || size > MOST - n) {
                return false;
            }
            for (int i = n - 1; i >= 0; i--) {
                bytes[size] = (byte) (v >>> 8 * i);
                size++;
            }
            return true;
        }

        void copy(Text other) {
            System.arraycopy(other.bytes, 0, bytes, 0, other.size);
            size = other.size;
        }

        /** Puts a name behind what is here, and answers its span. */
        int keep(Text other) {
            int start = size;
            for (int i = 0; i < other.size && size < MOST; i++) {
                bytes[size] = other.bytes[i];
                size++;
            }
            return span(start, size - start);
        }

        boolean isName() {
            if (size > LONGEST_NAME || !isSmall(at(0))) {
                return false;
            }
            for (int i = 1; i < size; i++) {
                if (!isOfName(at(i))) {
                    return false;
                }
            }
            return true;
        }

        int letterAt(int span, int i) {
            return i < 0 || i >= sizeOf(span) ? -1 : at(startOf(span) + i);
        }

        boolean same(int span, Text other, int otherSpan) {
            int length = sizeOf(span);
            if (length != sizeOf(otherSpan)) {
                return false;
            }
            for (int i = 0; i < length; i++) {
                if (at(startOf(span) + i) != other.at(startOf(otherSpan) + i)) {
                    return false;
                }
            }
            return true;
        }
    }

    /** The tables, each with its columns. */
    private static final class Catalog {
        static final int MOST = 8;

        private final Text names = new Text();
        private final int[] tableNames = new int[MOST];
        private final int[] columnCounts = new int[MOST];
        private final int[] columnNames = new int[MOST * MOST];
        private final int[] columnTypes = new int[MOST * MOST];
        private int tables;

        int addTable(Text name) {
            if (!name.isName() || tables >= MOST) {
                return -1;
            }
            if (findTable(name, Text.span(0, name.size())) >= 0) {
                return -2;
            }
            tableNames[tables] = names.keep(name);
            tables++;
            return tables - 1;
        }

        int addColumn(int table, int type, Text name) {
            if (!name.isName() || !has(table) || type < INT || type > BOOL) {
                return -1;
            }
            int column = columnCounts[table];
            if (column >= MOST) {
                return -1;
            }
            if (findColumn(table, name, Text.span(0, name.size())) >= 0) {
                return -2;
            }
            columnNames[table * MOST + column] = names.keep(name);
            columnTypes[table * MOST + column] = type;
            columnCounts[table] = column + 1;
            return column;
        }

        int findTable(Text text, int span) {
            for (int i = 0; i < tables; i++) {
                if (names.same(tableNames[i], text, span)) {
                    return i;
                }
            }
            return -1;
        }

        int findColumn(int table, Text text, int span) {
            for (int i = 0; i < columnsOf(table); i++) {
                if (names.same(columnNames[table * MOST + i], text, span)) {
                    return i;
                }
            }
            return -1;
        }

        int columnsOf(int table) {
            return has(table) ? columnCounts[table] : 0;
        }

        /** The type of a column; ANY of one that is not there. */
        int typeOf(int table, int column) {
            boolean there = column >= 0 && column < columnsOf(table);
            return there ? columnTypes[table * MOST + column] : ANY;
        }

        private boolean has(int table) {
            return table >= 0 && table < tables;
        }
    }

    /** A text cut into tokens, which are then taken one by one. */
    private static final class Tokens {
        /** The kinds of tokens; signs count as words. */
        static final int WORD = 0;
        static final int NAME = 1;
        static final int NUMBER = 2;
        static final int TEXT = 3;
        static final int PARAMETER = 4;

        private static final int MOST_DIGITS = 18;
        private static final int SPAN_BITS = 16;
        private static final int SPAN_MASK = 65535;
        private static final String SIGNS = "(),.;*=<>+-/%";

        private final Text text = new Text();
        /** Each token's kind above the span of its bytes. */
        private final int[] entries = new int[Text.MOST];
        private int size;
        private int next;

        Text text() {
            return text;
        }

        /** Cuts a text; false if something in it is no token. */
        boolean cut(Text typed) {
            text.copy(typed);
            size = 0;
            next = 0;
            int at = 0;
            for (int i = 0; i < Text.MOST && at >= 0 && at < text.size(); i++) {
                at = text.at(at) == ' ' ? at + 1 : cutToken(at);
            }
            return at >= 0;
        }

        boolean ended() {
            return next >= size;
        }

        /** Takes the next token if it is this word or sign. */
        boolean takes(String word) {
            int span = next < size ? entries[next] : -1;
            if (span >> SPAN_BITS != WORD || Text.sizeOf(span) != word.length()) {
                return false;
            }
            int start = Text.startOf(span);
            for (int i = 0; i < word.length(); i++) {
                if (text.at(start + i) != word.charAt(i)) {
                    return false;
                }
            }
            next++;
            return true;
        }

        /** Takes the next token if it is of a kind: its span, or -1. */
        int take(int kind) {
            if (next >= size || entries[next] >> SPAN_BITS != kind) {
                return -1;
            }
            next++;
            return entries[next - 1] & SPAN_MASK;
        }

        /** Where the next token is, to come back to. */
        int mark() {
            return next;
        }

        void backTo(int mark) {
            if (mark >= 0 && mark < next) {
                next = mark;
            }
        }

        long numberOf(int span) {
            long number = 0;
            for (int i = 0; i < Text.sizeOf(span); i++) {
                number = number * 10 + (text.at(Text.startOf(span) + i) - '0');
            }
            return number;
        }

        /** Cuts the token at a place: the place behind it, or -1 if there is none. */
        private int cutToken(int at) {
            int letter = text.at(at);
            if (isCapital(letter)) {
                return keep(WORD, at, endOfCapitals(at), Text.LONGEST_SPAN);
            }
            if (Text.isSmall(letter)) {
                return keep(NAME, at, endOfName(at), Text.LONGEST_NAME);
            }
            if (Text.isDigit(letter)) {
                return keep(NUMBER, at, endOfDigits(at), MOST_DIGITS);
            }
            if (letter == '\'') {
                return cutText(at + 1);
            }
            if (letter == '$') {
                int digit = text.at(at + 1);
                return digit < '1' || digit > '9' ? -1 : keep(PARAMETER, at + 1, at + 2, 1);
            }
            int length = signSize(at);
            return length == 0 ? -1 : keep(WORD, at, at + length, length);
        }

        private int keep(int kind, int start, int end, int most) {
            if (end - start > most || size >= Text.MOST) {
                return -1;
            }
            entries[size] = kind << SPAN_BITS | Text.span(start, end - start);
            size++;
            return end;
        }

        /** Cuts the text whose first byte is at start; its '' become one byte where they stand. */
        private int cutText(int start) {
            int to = start;
            int from = start;
            for (int i = 0; i < Text.MOST; i++) {
                int letter = text.at(from);
                if (letter < 32 || letter > 126) {
                    return -1;
                }
                if (letter == '\'') {
                    from++;
                    if (text.at(from) != '\'') {
                        return keep(TEXT, start, to, Text.LONGEST_SPAN) < 0 ? -1 : from;
                    }
                }
                text.put(to, letter);
                to++;
                from++;
            }
            return -1;
        }

        private int signSize(int at) {
            int letter = text.at(at);
            int second = text.at(at + 1);
            boolean two = letter == '<' && (second == '=' || second == '>')
                || letter == '>' && second == '='
                || letter == '|' && second == '|';
            if (two) {
                return 2;
            }
            return SIGNS.indexOf((char) letter) >= 0 ? 1 : 0;
        }

        private int endOfCapitals(int at) {
            int end = at;
            for (int i = 0; i < Text.MOST && isCapital(text.at(end)); i++) {
                end++;
            }
            return end;
        }

        private int endOfName(int at) {
            int end = at;
            for (int i = 0; i < Text.MOST && Text.isOfName(text.at(end)); i++) {
                end++;
            }
            return end;
        }

        private int endOfDigits(int at) {
            int end = at;
            for (int i = 0; i < Text.MOST && Text.isDigit(text.at(end)); i++) {
                end++;
            }
            return end;
        }

        private static boolean isCapital(int letter) {
            return letter >= 'A' && letter <= 'Z';
        }
    }

    /** The nodes of a statement, operands before what works on them. */
    private static final class Nodes {
        static final int MOST = 200;

        static final int NULL = 0;
        static final int NUMBER = 1;
        static final int TEXT = 2;
        static final int TRUTH = 3;
        static final int PLACE = 4;
        static final int COUNT_ROWS = 5;
        static final int COUNT = 6;
        static final int SUM = 7;
        static final int MIN = 8;
        static final int MAX = 9;
        static final int MINUS = 10;
        static final int ADD = 11;
        static final int SUBTRACT = 12;
        static final int MULTIPLY = 13;
        static final int DIVIDE = 14;
        static final int REMAINDER = 15;
        static final int CHAIN = 16;
        static final int EQUAL = 17;
        static final int UNEQUAL = 18;
        static final int LESS = 19;
        static final int AT_MOST = 20;
        static final int MORE = 21;
        static final int AT_LEAST = 22;
        static final int IS_NULL = 23;
        static final int IS_NOT_NULL = 24;
        static final int NOT = 25;
        static final int AND = 26;
        static final int OR = 27;
        static final int PARAMETER = 28;

        private final int[] kinds = new int[MOST];
        private final int[] firsts = new int[MOST];
        private final int[] seconds = new int[MOST];
        private final int[] types = new int[MOST];
        /** The node that works on it, or -1. */
        private final int[] parents = new int[MOST];
        /** The type that its place in the statement needs; what works on a node is not meant. */
        private final int[] needs = new int[MOST];
        /** The error that a place has, or 0. */
        private final int[] faults = new int[MOST];
        private final int[] spans = new int[MOST];
        /** The name before a place's own name, or -1. */
        private final int[] qualifiers = new int[MOST];
        private int size;
        private boolean over;

        static boolean works(int kind) {
            return kind >= COUNT && kind <= OR;
        }

        static boolean aggregates(int kind) {
            return kind >= COUNT_ROWS && kind <= MAX;
        }

        static boolean compares(int kind) {
            return kind >= EQUAL && kind <= AT_LEAST;
        }

        void clear() {
            size = 0;
            over = false;
        }

        int size() {
            return size;
        }

        /** Whether there was no room for a node. */
        boolean isOver() {
            return over;
        }

        /** Makes a node that works on two; -1 if one of them is none. */
        int join(int kind, int first, int second) {
            if (first < 0 || second < 0) {
                return -1;
            }
            int made = leaf(kind, first, -1, -1);
            if (!over) {
                seconds[made] = second;
                adopt(first, made);
                adopt(second, made);
            }
            return made;
        }

        /** Makes a node that works on one; -1 if that is none. */
        int top(int kind, int operand) {
            if (operand < 0) {
                return -1;
            }
            int made = leaf(kind, operand, -1, -1);
            if (!over) {
                adopt(operand, made);
            }
            return made;
        }

        /** Makes a node without operands; if there is no room, it answers 0 and isOver holds. */
        int leaf(int kind, int first, int span, int qualifier) {
            if (size >= MOST) {
                over = true;
                return 0;
            }
            int made = size;
            kinds[made] = kind;
            firsts[made] = first;
            seconds[made] = -1;
            types[made] = ANY;
            parents[made] = -1;
            needs[made] = ANY;
            faults[made] = 0;
            spans[made] = span;
            qualifiers[made] = qualifier;
            size++;
            return made;
        }

        /** Makes the nodes from .. to anew, and answers the last of the new ones. */
        int again(int from, int to) {
            int shift = size - from;
            int made = 0;
            for (int k = Math.max(from, 0); k <= to && k < MOST && !over; k++) {
                if (!works(kinds[k])) {
                    made = leaf(kinds[k], firsts[k], spans[k], qualifiers[k]);
                } else if (seconds[k] < 0) {
                    made = top(kinds[k], firsts[k] + shift);
                } else {
                    made = join(kinds[k], firsts[k] + shift, seconds[k] + shift);
                }
            }
            return made;
        }

        int kindOf(int k) {
            return k >= 0 && k < size ? kinds[k] : -1;
        }

        int firstOf(int k) {
            return k >= 0 && k < size ? firsts[k] : -1;
        }

        int secondOf(int k) {
            return k >= 0 && k < size ? seconds[k] : -1;
        }

        int typeOf(int k) {
            return k >= 0 && k < size ? types[k] : -1;
        }

        int parentOf(int k) {
            return k >= 0 && k < size ? parents[k] : -1;
        }

        int needOf(int k) {
            return k >= 0 && k < size ? needs[k] : ANY;
        }

        int faultOf(int k) {
            return k >= 0 && k < size ? faults[k] : 0;
        }

        int spanOf(int k) {
            return k >= 0 && k < size ? spans[k] : -1;
        }

        int qualifierOf(int k) {
            return k >= 0 && k < size ? qualifiers[k] : -1;
        }

        void putType(int k, int type) {
            if (k >= 0 && k < size) {
                types[k] = type;
            }
        }

        void putNeed(int k, int type) {
            if (k >= 0 && k < size) {
                needs[k] = type;
            }
        }

        void putFault(int k, int error) {
            if (k >= 0 && k < size) {
                faults[k] = error;
            }
        }

        void putPlace(int k, int table, int column) {
            if (k >= 0 && k < size) {
                firsts[k] = table;
                seconds[k] = column;
            }
        }

        private void adopt(int k, int parent) {
            if (k >= 0 && k < size) {
                parents[k] = parent;
            }
        }
    }

    /** The lists of a statement, one behind the other in one row. */
    private static final class Lists {
        static final int ITEMS = 0;
        static final int GROUPS = 1;
        static final int ORDERS = 2;
        static final int TABLES = 3;
        static final int SET_COLUMNS = 4;
        static final int SET_NODES = 5;
        static final int VALUES = 6;
        static final int COLUMN_TYPES = 7;
        static final int PARAMETERS = 8;
        static final int ARGUMENTS = 9;
        /** The lists up to this one are told by their numbers; those behind it are not. */
        static final int LAST_TOLD = 9;
        /** The names of tables and their second names (or -1). */
        static final int TABLE_NAMES = 10;
        static final int SECOND_NAMES = 11;
        /** How many values there are with each row. */
        static final int ROW_ENDS = 12;
        /** The names of columns in SET or CREATE TABLE. */
        static final int COLUMN_NAMES = 13;

        private static final int COUNT = 14;
        private static final int[] MOST = {8, 4, 4, 3, 8, 8, 200, 8, 9, 200, 3, 3, 200, 8};
        private static final int[] STARTS =
            {0, 8, 12, 16, 19, 27, 35, 235, 243, 252, 452, 455, 458, 658};

        private final int[] sizes = new int[COUNT];
        private final int[] entries = new int[666];
        private boolean over;

        void clear() {
            Arrays.fill(sizes, 0);
            over = false;
        }

        /** Whether a list became longer than it may. */
        boolean isOver() {
            return over;
        }

        int size(int which) {
            return which < 0 || which >= COUNT ? 0 : sizes[which];
        }

        void add(int which, int entry) {
            if (which < 0 || which >= COUNT || sizes[which] >= MOST[which]) {
                over = true;
                return;
            }
            entries[STARTS[which] + sizes[which]] = entry;
            sizes[which]++;
        }

        int at(int which, int i) {
            boolean there = which >= 0 && which < COUNT && i >= 0 && i < sizes[which];
            return there ? entries[STARTS[which] + i] : -1;
        }

        void put(int which, int i, int entry) {
            if (which >= 0 && which < COUNT && i >= 0 && i < sizes[which]) {
                entries[STARTS[which] + i] = entry;
            }
        }
    }

    /** What there is of a statement beside its nodes and lists; names are spans. */
    private static final class Statement {
        int kind;
        /** The kind of what is done: in PREPARE that of its statement, else the kind itself. */
        int deed;
        int title;
        int tableName;
        int table;
        int columnName;
        int column;
        int mode;
        int limit;
        int where;
        boolean unique;
        boolean distinct;
        /** Whether * stands for the items. */
        boolean star;

        Statement() {
            clear();
        }

        void clear() {
            kind = 0;
            deed = 0;
            title = -1;
            tableName = -1;
            table = -1;
            columnName = -1;
            column = -1;
            mode = 0;
            limit = -1;
            where = -1;
            unique = false;
            distinct = false;
            star = false;
        }
    }

    /** Makes a statement of tokens; its methods answer false, or a node -1, where none can be. */
    private static final class Parser {
        private static final int MOST_DEEP = 20;

        /** How much an operation binds, from what binds least. */
        private static final int OR_LEVEL = 1;
        private static final int AND_LEVEL = 2;
        private static final int NOT_LEVEL = 3;
        private static final int COMPARISON_LEVEL = 4;
        private static final int CHAIN_LEVEL = 5;
        private static final int SUM_LEVEL = 6;
        private static final int PRODUCT_LEVEL = 7;
        private static final int NO_LEVEL = 0;

        /** What BETWEEN, IN and NOT before one of them count as: they have no nodes of their own. */
        private static final int BETWEEN = 29;
        private static final int IN = 30;
        private static final int NOT_THOSE = 31;
        private static final int NO_KIND = -1;

        private final Tokens tokens;
        private final Nodes nodes;
        private final Lists lists;
        private final Statement statement;
        private boolean prepared;
        private boolean inItems;

        Parser(Tokens tokens, Nodes nodes, Lists lists, Statement statement) {
            this.tokens = tokens;
            this.nodes = nodes;
            this.lists = lists;
            this.statement = statement;
        }

        /** What may stand before a statement: PREPARE name AS. */
        boolean begins() {
            prepared = tokens.takes("PREPARE");
            return !prepared || title() && tokens.takes("AS");
        }

        boolean deed() {
            if (tokens.takes("SELECT")) {
                return query(QUERY);
            }
            if (tokens.takes("INSERT")) {
                if (!tokens.takes("INTO") || !target()) {
                    return false;
                }
                return tokens.takes("SELECT") ? query(INSERT_QUERY) : rows();
            }
            if (tokens.takes("UPDATE")) {
                return update();
            }
            if (tokens.takes("DELETE")) {
                return delete();
            }
            if (prepared) {
                return false;
            }
            if (tokens.takes("EXECUTE")) {
                return execute();
            }
            return tokens.takes("CREATE") ? create() : otherDeed();
        }

        boolean ends() {
            tokens.takes(";");
            statement.kind = prepared ? PREPARE : statement.deed;
            return tokens.ended();
        }

        private boolean otherDeed() {
            if (tokens.takes("DROP")) {
                return tokens.takes("TABLE") && target() && is(DROP_TABLE);
            }
            if (tokens.takes("BEGIN")) {
                return begin();
            }
            if (tokens.takes("COMMIT")) {
                return is(COMMIT);
            }
            if (tokens.takes("ROLLBACK")) {
                return tokens.takes("TO") ? title() && is(ROLLBACK_TO) : is(ROLLBACK);
            }
            if (tokens.takes("SAVEPOINT")) {
                return title() && is(SAVEPOINT);
            }
            if (tokens.takes("RELEASE")) {
                return title() && is(RELEASE);
            }
            if (tokens.takes("LOCK")) {
                return target() && lockMode() && is(LOCK);
            }
            if (tokens.takes("VACUUM")) {
                return target() && is(VACUUM);
            }
            return tokens.takes("CHECKPOINT") && is(CHECKPOINT);
        }

        private boolean is(int kind) {
            statement.deed = kind;
            return true;
        }

        private boolean title() {
            statement.title = tokens.take(Tokens.NAME);
            return statement.title >= 0;
        }

        private boolean target() {
            statement.tableName = tokens.take(Tokens.NAME);
            return statement.tableName >= 0;
        }

        private boolean create() {
            if (tokens.takes("TABLE")) {
                return title() && columns() && is(CREATE_TABLE);
            }
            statement.unique = tokens.takes("UNIQUE");
            if (!tokens.takes("INDEX") || !tokens.takes("ON") || !target() || !tokens.takes("(")) {
                return false;
            }
            statement.columnName = tokens.take(Tokens.NAME);
            return statement.columnName >= 0 && tokens.takes(")") && is(CREATE_INDEX);
        }

        private boolean columns() {
            boolean fine = tokens.takes("(") && newColumn();
            for (int i = 0; i < Text.MOST && fine && tokens.takes(","); i++) {
                fine = newColumn();
            }
            return fine && tokens.takes(")");
        }

        private boolean newColumn() {
            int span = tokens.take(Tokens.NAME);
            int type = typeWord();
            if (span < 0 || type == ANY) {
                return false;
            }
            boolean not = tokens.takes("NOT");
            if (not && !tokens.takes("NULL")) {
                return false;
            }
            boolean unique = tokens.takes("UNIQUE");
            lists.add(Lists.COLUMN_NAMES, span);
            lists.add(Lists.COLUMN_TYPES, type + (not ? 10 : 0) + (unique ? 20 : 0));
            return true;
        }

        private int typeWord() {
            if (tokens.takes("INT")) {
                return INT;
            }
            if (tokens.takes("TEXT")) {
                return TEXT;
            }
            return tokens.takes("BOOL") ? BOOL : ANY;
        }

        private boolean rows() {
            boolean fine = tokens.takes("VALUES");
            for (int i = 0; i < Text.MOST && fine; i++) {
                fine = tokens.takes("(") && expressions(Lists.VALUES) && tokens.takes(")");
                lists.add(Lists.ROW_ENDS, lists.size(Lists.VALUES));
                if (!tokens.takes(",")) {
                    break;
                }
            }
            return fine && is(INSERT_ROWS);
        }

        private boolean execute() {
            boolean fine = title();
            if (fine && tokens.takes("(")) {
                fine = expressions(Lists.ARGUMENTS) && tokens.takes(")");
            }
            return fine && is(EXECUTE);
        }

        private boolean expressions(int which) {
            for (int i = 0; i < Text.MOST; i++) {
                int node = expression(OR_LEVEL, 0);
                if (node < 0) {
                    return false;
                }
                lists.add(which, node);
                if (!tokens.takes(",")) {
                    return true;
                }
            }
            return false;
        }

        private boolean update() {
            boolean fine = target() && tokens.takes("SET") && setting();
            for (int i = 0; i < Text.MOST && fine && tokens.takes(","); i++) {
                fine = setting();
            }
            ownTable();
            return fine && where() && is(UPDATE);
        }

        private boolean setting() {
            int span = tokens.take(Tokens.NAME);
            int node = span >= 0 && tokens.takes("=") ? expression(OR_LEVEL, 0) : -1;
            lists.add(Lists.COLUMN_NAMES, span);
            lists.add(Lists.SET_NODES, node);
            return node >= 0;
        }

        private boolean delete() {
            boolean fine = tokens.takes("FROM") && target();
            ownTable();
            return fine && where() && is(DELETE);
        }

        /** The table of UPDATE and DELETE is the one in which their places are looked for. */
        private void ownTable() {
            lists.add(Lists.TABLE_NAMES, statement.tableName);
            lists.add(Lists.SECOND_NAMES, -1);
        }

        private boolean query(int kind) {
            statement.distinct = tokens.takes("DISTINCT");
            statement.star = tokens.takes("*");
            inItems = true;
            boolean fine = statement.star || expressions(Lists.ITEMS);
            inItems = false;
            return fine && from() && where() && groups() && orders() && limit() && lock()
                && is(kind);
        }

        private boolean from() {
            boolean fine = tokens.takes("FROM") && tableOfQuery();
            for (int i = 0; i < Text.MOST && fine && tokens.takes(","); i++) {
                fine = tableOfQuery();
            }
            return fine;
        }

        private boolean tableOfQuery() {
            int span = tokens.take(Tokens.NAME);
            lists.add(Lists.TABLE_NAMES, span);
            lists.add(Lists.SECOND_NAMES, tokens.take(Tokens.NAME));
            return span >= 0;
        }

        private boolean where() {
            if (!tokens.takes("WHERE")) {
                return true;
            }
            statement.where = expression(OR_LEVEL, 0);
            return statement.where >= 0;
        }

        private boolean groups() {
            if (!tokens.takes("GROUP")) {
                return true;
            }
            boolean fine = tokens.takes("BY") && group();
            for (int i = 0; i < Text.MOST && fine && tokens.takes(","); i++) {
                fine = group();
            }
            return fine;
        }

        private boolean group() {
            int node = place();
            if (node >= 0) {
                lists.add(Lists.GROUPS, node);
            }
            return node >= 0;
        }

        private boolean orders() {
            if (!tokens.takes("ORDER")) {
                return true;
            }
            boolean fine = tokens.takes("BY") && order();
            for (int i = 0; i < Text.MOST && fine && tokens.takes(","); i++) {
                fine = order();
            }
            return fine;
        }

        private boolean order() {
            int span = tokens.take(Tokens.NUMBER);
            if (span < 0) {
                return false;
            }
            long number = tokens.numberOf(span);
            // There are at most 8 items, so that item 8 stands for every number that is none.
            int item = number < 1 || number > 8 ? 8 : (int) number - 1;
            lists.add(Lists.ORDERS, tokens.takes("DESC") ? -1 - item : item);
            return true;
        }

        private boolean limit() {
            if (!tokens.takes("LIMIT")) {
                return true;
            }
            int span = tokens.take(Tokens.NUMBER);
            statement.limit = (int) Math.min(tokens.numberOf(span), 2147483647L);
            return span >= 0;
        }

        private boolean lock() {
            if (!tokens.takes("FOR")) {
                return true;
            }
            statement.mode = tokens.takes("SHARE") ? 1 : tokens.takes("UPDATE") ? 2 : 0;
            return statement.mode > 0;
        }

        private boolean begin() {
            statement.deed = BEGIN;
            if (tokens.takes("READ")) {
                return tokens.takes("COMMITTED");
            }
            if (tokens.takes("REPEATABLE")) {
                statement.mode = 1;
                return tokens.takes("READ");
            }
            statement.mode = tokens.takes("SERIALIZABLE") ? 2 : 0;
            return true;
        }

        private boolean lockMode() {
            if (tokens.takes("ACCESS")) {
                statement.mode = tokens.takes("SHARE") ? 1 : tokens.takes("EXCLUSIVE") ? 8 : 0;
            } else if (tokens.takes("ROW")) {
                statement.mode = tokens.takes("SHARE") ? 2 : tokens.takes("EXCLUSIVE") ? 3 : 0;
            } else if (tokens.takes("SHARE")) {
                statement.mode = shareMode();
            } else {
                statement.mode = tokens.takes("EXCLUSIVE") ? 7 : 0;
            }
            return statement.mode > 0;
        }

        private int shareMode() {
            if (tokens.takes("UPDATE")) {
                return tokens.takes("EXCLUSIVE") ? 4 : 0;
            }
            if (tokens.takes("ROW")) {
                return tokens.takes("EXCLUSIVE") ? 6 : 0;
            }
            return 5;
        }

        /**
         * E of operations that bind at least so much: its node. Behind an operation only such
         * may follow as bind no more, so that a comparison has no second one behind it.
         */
        private int expression(int least, int depth) {
            if (depth > MOST_DEEP) {
                return -1;
            }
            int from = nodes.size();
            boolean not = least <= NOT_LEVEL && tokens.takes("NOT");
            int most = not ? AND_LEVEL : PRODUCT_LEVEL;
            int left = not
                ? nodes.top(Nodes.NOT, expression(NOT_LEVEL, depth + 1)) : operand(depth);
            for (int i = 0; i < Text.MOST && left >= 0; i++) {
                int mark = tokens.mark();
                int word = wordBehind();
                int kind = word < 0 ? signBehind() : word;
                int level = levelOf(kind);
                if (level < least || level > most) {
                    tokens.backTo(mark);
                    break;
                }
                if (level == COMPARISON_LEVEL) {
                    left = comparison(kind, from, left, depth);
                    most = AND_LEVEL;
                } else {
                    left = nodes.join(kind, left, expression(level + 1, depth));
                    most = level;
                }
            }
            return left;
        }

        /** The comparison of a kind with the nodes from .. left before it. */
        private int comparison(int kind, int from, int left, int depth) {
            if (kind == Nodes.IS_NULL) {
                int judgement = tokens.takes("NOT") ? Nodes.IS_NOT_NULL : kind;
                return tokens.takes("NULL") ? nodes.top(judgement, left) : -1;
            }
            if (kind < BETWEEN) {
                return nodes.join(kind, left, expression(CHAIN_LEVEL, depth));
            }
            boolean not = kind == NOT_THOSE;
            int made = -1;
            if (kind == BETWEEN || not && tokens.takes("BETWEEN")) {
                made = between(from, left, depth);
            } else if (kind == IN || tokens.takes("IN")) {
                made = among(from, left, depth);
            }
            return not ? nodes.top(Nodes.NOT, made) : made;
        }

        private int between(int from, int left, int depth) {
            int low = nodes.join(Nodes.AT_LEAST, left, expression(CHAIN_LEVEL, depth));
            if (low < 0 || !tokens.takes("AND")) {
                return -1;
            }
            int again = nodes.again(from, left);
            int high = nodes.join(Nodes.AT_MOST, again, expression(CHAIN_LEVEL, depth));
            return nodes.join(Nodes.AND, low, high);
        }

        private int among(int from, int left, int depth) {
            if (!tokens.takes("(")) {
                return -1;
            }
            int all = nodes.join(Nodes.EQUAL, left, expression(OR_LEVEL, depth + 1));
            for (int i = 0; i < Text.MOST && all >= 0 && tokens.takes(","); i++) {
                int again = nodes.again(from, left);
                int one = nodes.join(Nodes.EQUAL, again, expression(OR_LEVEL, depth + 1));
                all = nodes.join(Nodes.OR, all, one);
            }
            return tokens.takes(")") ? all : -1;
        }

        private int operand(int depth) {
            if (depth > MOST_DEEP) {
                return -1;
            }
            if (tokens.takes("-")) {
                return nodes.top(Nodes.MINUS, operand(depth + 1));
            }
            if (tokens.takes("(")) {
                int inside = expression(OR_LEVEL, depth + 1);
                return tokens.takes(")") ? inside : -1;
            }
            int aggregate = inItems ? aggregate() : NO_KIND;
            if (aggregate >= 0) {
                return aggregated(aggregate, depth);
            }
            int node = leaf();
            return node < 0 ? place() : node;
        }

        private int aggregated(int kind, int depth) {
            if (!tokens.takes("(")) {
                return -1;
            }
            int made = kind == Nodes.COUNT && tokens.takes("*")
                ? nodes.leaf(Nodes.COUNT_ROWS, -1, -1, -1)
                : nodes.top(kind, expression(OR_LEVEL, depth + 1));
            return tokens.takes(")") ? made : -1;
        }

        private int aggregate() {
            if (tokens.takes("COUNT")) {
                return Nodes.COUNT;
            }
            if (tokens.takes("SUM")) {
                return Nodes.SUM;
            }
            if (tokens.takes("MIN")) {
                return Nodes.MIN;
            }
            return tokens.takes("MAX") ? Nodes.MAX : NO_KIND;
        }

        /** What stands for itself; -1 if there is no such. */
        private int leaf() {
            int span = tokens.take(Tokens.NUMBER);
            if (span >= 0) {
                return nodes.leaf(Nodes.NUMBER, -1, span, -1);
            }
            span = tokens.take(Tokens.TEXT);
            if (span >= 0) {
                return nodes.leaf(Nodes.TEXT, -1, span, -1);
            }
            span = tokens.take(Tokens.PARAMETER);
            if (span >= 0) {
                return nodes.leaf(Nodes.PARAMETER, (int) tokens.numberOf(span), -1, -1);
            }
            if (tokens.takes("NULL")) {
                return nodes.leaf(Nodes.NULL, -1, -1, -1);
            }
            if (tokens.takes("TRUE")) {
                return nodes.leaf(Nodes.TRUTH, 1, -1, -1);
            }
            return tokens.takes("FALSE") ? nodes.leaf(Nodes.TRUTH, 0, -1, -1) : -1;
        }

        private int place() {
            int span = tokens.take(Tokens.NAME);
            if (span < 0 || !tokens.takes(".")) {
                return span < 0 ? -1 : nodes.leaf(Nodes.PLACE, -1, span, -1);
            }
            int behind = tokens.take(Tokens.NAME);
            return behind < 0 ? -1 : nodes.leaf(Nodes.PLACE, -1, behind, span);
        }

        /** Takes the next word if it works on an operand before it: the kind of its node. */
        private int wordBehind() {
            if (tokens.takes("OR")) {
                return Nodes.OR;
            }
            if (tokens.takes("AND")) {
                return Nodes.AND;
            }
            if (tokens.takes("IS")) {
                return Nodes.IS_NULL;
            }
            if (tokens.takes("BETWEEN")) {
                return BETWEEN;
            }
            if (tokens.takes("IN")) {
                return IN;
            }
            return tokens.takes("NOT") ? NOT_THOSE : NO_KIND;
        }

        /** Takes the next sign if it works on an operand before it: the kind of its node. */
        private int signBehind() {
            if (tokens.takes("=")) {
                return Nodes.EQUAL;
            }
            if (tokens.takes("<>")) {
                return Nodes.UNEQUAL;
            }
            if (tokens.takes("<")) {
                return Nodes.LESS;
            }
            if (tokens.takes("<=")) {
                return Nodes.AT_MOST;
            }
            if (tokens.takes(">")) {
                return Nodes.MORE;
            }
            if (tokens.takes(">=")) {
                return Nodes.AT_LEAST;
            }
            if (tokens.takes("+")) {
                return Nodes.ADD;
            }
            if (tokens.takes("-")) {
                return Nodes.SUBTRACT;
            }
            if (tokens.takes("*")) {
                return Nodes.MULTIPLY;
            }
            if (tokens.takes("/")) {
                return Nodes.DIVIDE;
            }
            if (tokens.takes("%")) {
                return Nodes.REMAINDER;
            }
            return tokens.takes("||") ? Nodes.CHAIN : NO_KIND;
        }

        private static int levelOf(int kind) {
            switch (kind) {
                case Nodes.OR: return OR_LEVEL;
                case Nodes.AND: return AND_LEVEL;
                case Nodes.CHAIN: return CHAIN_LEVEL;
                case Nodes.ADD:
                case Nodes.SUBTRACT: return SUM_LEVEL;
                case Nodes.MULTIPLY:
                case Nodes.DIVIDE:
                case Nodes.REMAINDER: return PRODUCT_LEVEL;
                case NO_KIND: return NO_LEVEL;
                default: return COMPARISON_LEVEL;
            }
        }
    }

    /** Goes over a whole statement: tables, then types, then measures, then groups. */
    private static final class Meaning {
        private static final int MOST_ITEMS = 8;

        /** The type of a node by its kind; ANY where it depends on more. */
        private static final int[] TYPES = {
            ANY, INT, TEXT, BOOL, ANY, INT, INT, INT, ANY, ANY, INT, INT, INT, INT, INT, INT, TEXT,
            BOOL, BOOL, BOOL, BOOL, BOOL, BOOL, BOOL, BOOL, BOOL, BOOL, BOOL, ANY};
        /** The type that a node by its kind needs of its operands. */
        private static final int[] NEEDS = {
            ANY, ANY, ANY, ANY, ANY, ANY, ANY, INT, ANY, ANY, INT, INT, INT, INT, INT, INT, TEXT,
            ANY, ANY, ANY, ANY, ANY, ANY, ANY, ANY, BOOL, BOOL, BOOL, ANY};

        private final Catalog catalog;
        private final Text text;
        private final Nodes nodes;
        private final Lists lists;
        private final Statement statement;
        /** The nodes before this one have their types. */
        private int judged;

        Meaning(Catalog catalog, Tokens tokens, Nodes nodes, Lists lists, Statement statement) {
            this.catalog = catalog;
            this.text = tokens.text();
            this.nodes = nodes;
            this.lists = lists;
            this.statement = statement;
        }

        int firstError() {
            int error = tableError();
            if (error == 0) {
                error = typeError();
            }
            if (error == 0) {
                error = measureError();
            }
            return error == 0 ? groupError() : error;
        }

        private int tableError() {
            if (statement.tableName >= 0) {
                statement.table = catalog.findTable(text, statement.tableName);
                if (statement.table < 0) {
                    return NO_TABLE;
                }
            }
            for (int i = 0; i < lists.size(Lists.TABLE_NAMES); i++) {
                int table = catalog.findTable(text, lists.at(Lists.TABLE_NAMES, i));
                if (table < 0) {
                    return NO_TABLE;
                }
                if (tableCalled(nameOfTable(i)) < i) {
                    return TABLE_TWICE;
                }
                lists.add(Lists.TABLES, table);
            }
            return 0;
        }

        private int nameOfTable(int i) {
            int second = lists.at(Lists.SECOND_NAMES, i);
            return second >= 0 ? second : lists.at(Lists.TABLE_NAMES, i);
        }

        /** Which table of the statement has a name; as many as there are if none has. */
        private int tableCalled(int span) {
            int tables = lists.size(Lists.TABLE_NAMES);
            for (int i = 0; i < tables; i++) {
                if (text.same(nameOfTable(i), text, span)) {
                    return i;
                }
            }
            return tables;
        }

        private int typeError() {
            findPlaces();
            findColumnsSet();
            tellNeeds();
            typeParameters();
            judged = 0;
            int error = 0;
            if (statement.deed == CREATE_INDEX) {
                error = indexError();
            } else if (statement.deed == INSERT_QUERY && statement.star) {
                error = starError();
            } else if (statement.deed == UPDATE) {
                error = settingsError();
            }
            return error == 0 ? judgeTo(nodes.size()) : error;
        }

        private void findPlaces() {
            for (int k = 0; k < nodes.size(); k++) {
                if (nodes.kindOf(k) == Nodes.PLACE) {
                    nodes.putFault(k, findPlace(k));
                }
            }
        }

        /** Finds the column of a place, and answers the error if it can't. */
        private int findPlace(int k) {
            int tables = lists.size(Lists.TABLES);
            int qualifier = nodes.qualifierOf(k);
            int only = qualifier < 0 ? -1 : tableCalled(qualifier);
            int found = 0;
            for (int i = 0; i < tables; i++) {
                int table = lists.at(Lists.TABLES, i);
                int column = catalog.findColumn(table, text, nodes.spanOf(k));
                if (column >= 0 && (only < 0 || only == i)) {
                    nodes.putPlace(k, i, column);
                    nodes.putType(k, catalog.typeOf(table, column));
                    found++;
                }
            }
            if (only >= tables) {
                return NO_TABLE;
            }
            return found == 0 ? NO_COLUMN : found > 1 ? SEVERAL_COLUMNS : 0;
        }

        private void findColumnsSet() {
            for (int i = 0; i < lists.size(Lists.SET_NODES); i++) {
                int span = lists.at(Lists.COLUMN_NAMES, i);
                lists.add(Lists.SET_COLUMNS, catalog.findColumn(statement.table, text, span));
            }
        }

        private void tellNeeds() {
            nodes.putNeed(statement.where, BOOL);
            for (int i = 0; i < lists.size(Lists.SET_NODES); i++) {
                int column = lists.at(Lists.SET_COLUMNS, i);
                nodes.putNeed(lists.at(Lists.SET_NODES, i), catalog.typeOf(statement.table, column));
            }
            if (statement.deed == INSERT_QUERY) {
                tellColumns(Lists.ITEMS, 0, lists.size(Lists.ITEMS));
            }
            int start = 0;
            for (int i = 0; i < lists.size(Lists.ROW_ENDS); i++) {
                int end = lists.at(Lists.ROW_ENDS, i);
                tellColumns(Lists.VALUES, start, end);
                start = end;
            }
        }

        /** Tells the values start .. end of a list the types of the table's columns. */
        private void tellColumns(int which, int start, int end) {
            for (int i = start; i < end; i++) {
                nodes.putNeed(lists.at(which, i), catalog.typeOf(statement.table, i - start));
            }
        }

        private int indexError() {
            statement.column = catalog.findColumn(statement.table, text, statement.columnName);
            return statement.column < 0 ? NO_COLUMN : 0;
        }

        private int starError() {
            int item = 0;
            for (int i = 0; i < lists.size(Lists.TABLES); i++) {
                int table = lists.at(Lists.TABLES, i);
                for (int column = 0; column < catalog.columnsOf(table); column++) {
                    int needed = catalog.typeOf(statement.table, item);
                    if (!fits(catalog.typeOf(table, column), needed)) {
                        return WRONG_TYPE;
                    }
                    item++;
                }
            }
            return 0;
        }

        private int settingsError() {
            int error = 0;
            for (int i = 0; i < lists.size(Lists.SET_NODES) && error == 0; i++) {
                boolean found = lists.at(Lists.SET_COLUMNS, i) >= 0;
                error = found ? judgeTo(lists.at(Lists.SET_NODES, i) + 1) : NO_COLUMN;
            }
            return error;
        }

        /** Gives the nodes before end their types, up to the first that has an error. */
        private int judgeTo(int end) {
            int error = 0;
            for (int k = judged; k < end && error == 0; k++) {
                error = judge(k);
            }
            judged = end;
            return error;
        }

        private int judge(int k) {
            int fault = nodes.faultOf(k);
            if (fault != 0) {
                return fault;
            }
            if (!operandsFit(k)) {
                return WRONG_TYPE;
            }
            int type = typeFor(k);
            nodes.putType(k, type);
            return fits(type, nodes.needOf(k)) ? 0 : WRONG_TYPE;
        }

        private boolean operandsFit(int k) {
            int kind = nodes.kindOf(k);
            if (!Nodes.works(kind)) {
                return true;
            }
            int first = nodes.typeOf(nodes.firstOf(k));
            int second = nodes.typeOf(nodes.secondOf(k));
            if (kind == Nodes.MIN || kind == Nodes.MAX) {
                return first != BOOL;
            }
            if (Nodes.compares(kind)) {
                return fits(first, second);
            }
            return fits(first, NEEDS[kind]) && fits(second, NEEDS[kind]);
        }

        private static boolean fits(int type, int needed) {
            return type <= ANY || needed <= ANY || type == needed;
        }

        private int typeFor(int k) {
            int kind = nodes.kindOf(k);
            if (kind == Nodes.MIN || kind == Nodes.MAX) {
                return nodes.typeOf(nodes.firstOf(k));
            }
            boolean known = kind == Nodes.PLACE || kind == Nodes.PARAMETER;
            return known ? nodes.typeOf(k) : typeByKind(kind);
        }

        private static int typeByKind(int kind) {
            return kind < 0 || kind >= TYPES.length ? ANY : TYPES[kind];
        }

        private void typeParameters() {
            for (int k = 0; k < nodes.size(); k++) {
                if (nodes.kindOf(k) == Nodes.PARAMETER) {
                    nodes.putType(k, parameterType(k));
                }
            }
        }

        /** The type of the parameter at a node, which it gets where it comes first. */
        private int parameterType(int k) {
            int number = nodes.firstOf(k);
            for (int i = lists.size(Lists.PARAMETERS); i < number; i++) {
                lists.add(Lists.PARAMETERS, ANY);
            }
            if (lists.at(Lists.PARAMETERS, number - 1) == ANY) {
                int needed = neededAt(k);
                lists.put(Lists.PARAMETERS, number - 1, needed == ANY ? TEXT : needed);
            }
            return lists.at(Lists.PARAMETERS, number - 1);
        }

        private int neededAt(int k) {
            int parent = nodes.parentOf(k);
            int kind = nodes.kindOf(parent);
            if (kind < 0 || kind >= NEEDS.length) {
                return nodes.needOf(k);
            }
            if (!Nodes.compares(kind)) {
                return NEEDS[kind];
            }
            int first = nodes.firstOf(parent);
            return typeAhead(first == k ? nodes.secondOf(parent) : first);
        }

        /** The type of a node that may not have been judged yet; ANY if it can't be told. */
        private int typeAhead(int k) {
            int at = k;
            int kind = nodes.kindOf(at);
            for (int i = 0; i < Nodes.MOST && (kind == Nodes.MIN || kind == Nodes.MAX); i++) {
                at = nodes.firstOf(at);
                kind = nodes.kindOf(at);
            }
            if (kind == Nodes.PLACE) {
                return nodes.typeOf(at);
            }
            if (kind == Nodes.PARAMETER) {
                return Math.max(lists.at(Lists.PARAMETERS, nodes.firstOf(at) - 1), ANY);
            }
            return typeByKind(kind);
        }

        private int measureError() {
            int columns = statement.star ? columnsOfStar() : 0;
            if (columns > MOST_ITEMS) {
                return LONG_LIST;
            }
            if (nodes.size() + columns > Nodes.MOST) {
                return MANY_NODES;
            }
            if (statement.star) {
                spreadStar();
            }
            boolean prepared = statement.kind == PREPARE;
            boolean fine = valuesMatch() && namesDiffer() && ordersMatch()
                && (prepared || lists.size(Lists.PARAMETERS) == 0);
            return fine ? 0 : NO_STATEMENT;
        }

        private int columnsOfStar() {
            int columns = 0;
            for (int i = 0; i < lists.size(Lists.TABLES); i++) {
                columns += catalog.columnsOf(lists.at(Lists.TABLES, i));
            }
            return columns;
        }

        private void spreadStar() {
            for (int i = 0; i < lists.size(Lists.TABLES); i++) {
                int table = lists.at(Lists.TABLES, i);
                for (int column = 0; column < catalog.columnsOf(table); column++) {
                    int k = nodes.leaf(Nodes.PLACE, -1, -1, -1);
                    nodes.putPlace(k, i, column);
                    nodes.putType(k, catalog.typeOf(table, column));
                    lists.add(Lists.ITEMS, k);
                }
            }
        }

        /** Whether rows, or the items of a query in INSERT, are as many as the columns. */
        private boolean valuesMatch() {
            int columns = catalog.columnsOf(statement.table);
            if (statement.deed == INSERT_QUERY && lists.size(Lists.ITEMS) != columns) {
                return false;
            }
            int start = 0;
            for (int i = 0; i < lists.size(Lists.ROW_ENDS); i++) {
                int end = lists.at(Lists.ROW_ENDS, i);
                if (end - start != columns) {
                    return false;
                }
                start = end;
            }
            return true;
        }

        private boolean namesDiffer() {
            for (int i = 0; i < lists.size(Lists.COLUMN_NAMES); i++) {
                int span = lists.at(Lists.COLUMN_NAMES, i);
                for (int j = 0; j < i; j++) {
                    if (text.same(span, text, lists.at(Lists.COLUMN_NAMES, j))) {
                        return false;
                    }
                }
            }
            return true;
        }

        private boolean ordersMatch() {
            for (int i = 0; i < lists.size(Lists.ORDERS); i++) {
                int order = lists.at(Lists.ORDERS, i);
                if ((order < 0 ? -1 - order : order) >= lists.size(Lists.ITEMS)) {
                    return false;
                }
            }
            return true;
        }

        private int groupError() {
            boolean aggregated = false;
            for (int k = 0; k < nodes.size(); k++) {
                boolean aggregate = Nodes.aggregates(nodes.kindOf(k));
                if (aggregate && isAggregated(k)) {
                    return WRONG_GROUP;
                }
                aggregated = aggregated || aggregate;
            }
            boolean grouped = lists.size(Lists.GROUPS) > 0;
            if ((aggregated || grouped) && !itemsAreGrouped()) {
                return WRONG_GROUP;
            }
            boolean query = statement.deed == QUERY || statement.deed == INSERT_QUERY;
            boolean single = lists.size(Lists.TABLES) == 1 && !statement.distinct && !grouped
                && !aggregated && statement.deed == QUERY;
            return query && statement.mode > 0 && !single ? WRONG_FOR : 0;
        }

        /** Whether a node stands in an aggregate. */
        private boolean isAggregated(int k) {
            int above = nodes.parentOf(k);
            for (int i = 0; i < Nodes.MOST && above >= 0; i++) {
                if (Nodes.aggregates(nodes.kindOf(above))) {
                    return true;
                }
                above = nodes.parentOf(above);
            }
            return false;
        }

        private boolean itemsAreGrouped() {
            int items = lists.size(Lists.ITEMS);
            // The nodes of items come before all others, but those of * behind them.
            int start = statement.star ? lists.at(Lists.ITEMS, 0) : 0;
            int last = lists.at(Lists.ITEMS, items - 1);
            for (int k = Math.max(start, 0); k <= last; k++) {
                boolean free = nodes.kindOf(k) == Nodes.PLACE && !isAggregated(k);
                if (free && !isGrouped(k)) {
                    return false;
                }
            }
            return true;
        }

        private boolean isGrouped(int k) {
            for (int i = 0; i < lists.size(Lists.GROUPS); i++) {
                int group = lists.at(Lists.GROUPS, i);
                boolean table = nodes.firstOf(group) == nodes.firstOf(k);
                if (table && nodes.secondOf(group) == nodes.secondOf(k)) {
                    return true;
                }
            }
            return false;
        }
    }
}
