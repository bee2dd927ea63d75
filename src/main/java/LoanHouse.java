/**
 * A house for programs that move and lend their values: a text is read (Reader, Tree), its types are found
 * (Checker, Types), on each way through it is judged what is held and what is lent (Emitter, Ways), and what is
 * taken runs on a machine of bare cells (Machine, Store).
 */
public final class LoanHouse {
    public static final int NONE = -1;

    private static final int MOST_TEXT = 3000;
    private static final int FED = 20;
    private static final int MOST_GIVEN = 200;
    private static final int MOST_STEPS = 50000;

    // The limits that FAULTS 1 and 2 speak of.
    private static final int MOST_OPEN = 16;
    private static final int MOST_SIGNS = 16;
    private static final int MOST_DECLS = 24;
    private static final int MOST_FIELDS = 10;
    private static final int MOST_VARIANTS = 10;
    private static final int MOST_VARIANT_TYPES = 6;
    private static final int MOST_ELEMENTS = 32;
    private static final int MOST_FUNCTIONS = 30;
    private static final int MOST_PARAMS = 8;
    private static final int MOST_VARIABLES = 40;
    private static final int MOST_LOANS = 50;
    private static final int MOST_LEAVES = 60;
    private static final int MOST_PLACES = 400;
    private static final int MOST_CELLS = 8;
    private static final int MOST_PARTS = 16;

    // Rooms for what a text of 3,000 bytes can hold, each thing taking so many bytes of it at least.
    private static final int NODES = 3016;
    private static final int TYPES = 1504;
    private static final int NAMES = 1544;
    private static final int DECLS = 304;
    private static final int MEMBERS = 1504;
    private static final int FUNCTIONS = 380;
    private static final int VARIABLES = 1504;
    private static final int STEPS = 3016;
    private static final int SLOTS = 3072;
    private static final int ORDERS = 760;
    private static final int MATCHES = 400;
    private static final int TEMPS = 1504;

    // Tokens; a sign alone is its own number.
    private static final int END = 0;
    private static final int NAME = 1;
    private static final int NUMBER = 2;
    private static final int BAD = 3;
    private static final int SOLE_SIGN = 128;
    private static final int ARROW = 129;
    private static final int FAT_ARROW = 130;
    private static final int EQUAL = 131;
    private static final int UNEQUAL = 132;
    private static final int AT_MOST = 133;
    private static final int AT_LEAST = 134;
    private static final String SINGLES = "{}()[]<>=+-*/%.,;:^&_";
    private static final String WORDS = "record choice told fn of let if else while break continue return match print fail read new box row open len push pop swap int bool true false and or not main";
    private static final int WORD_COUNT = 31;
    private static final int MAIN_NAME = 31;
    private static final int TOKENS = MOST_TEXT + 1;
    private static final int W_RECORD = 200;
    private static final int W_CHOICE = 201;
    private static final int W_TOLD = 202;
    private static final int W_FN = 203;
    private static final int W_OF = 204;
    private static final int W_LET = 205;
    private static final int W_IF = 206;
    private static final int W_ELSE = 207;
    private static final int W_WHILE = 208;
    private static final int W_BREAK = 209;
    private static final int W_CONTINUE = 210;
    private static final int W_RETURN = 211;
    private static final int W_MATCH = 212;
    private static final int W_PRINT = 213;
    private static final int W_FAIL = 214;
    private static final int W_READ = 215;
    private static final int W_NEW = 216;
    private static final int W_BOX = 217;
    private static final int W_ROW = 218;
    private static final int W_OPEN = 219;
    private static final int W_LEN = 220;
    private static final int W_PUSH = 221;
    private static final int W_POP = 222;
    private static final int W_SWAP = 223;
    private static final int W_INT = 224;
    private static final int W_BOOL = 225;
    private static final int W_TRUE = 226;
    private static final int W_FALSE = 227;
    private static final int W_AND = 228;
    private static final int W_OR = 229;
    private static final int W_NOT = 230;

    // Nodes that no token of their own begins; the others are told by the token that begins them.
    private static final int TEXT = 300;
    private static final int FIELD = 301;
    private static final int VARIANT = 302;
    private static final int BLOCK = 303;
    private static final int ASSIGN = 304;
    private static final int DO = 305;
    private static final int ARM = 306;
    private static final int BIND = 307;
    private static final int INIT = 308;
    private static final int NEW_VARIANT = 309;
    private static final int CALL = 310;
    private static final int CHAIN = 311;

    // Kinds of types; the first three are types themselves, and 0 is what has no type.
    private static final int UNTYPED = 0;
    private static final int INT = 1;
    private static final int BOOL = 2;
    private static final int NAMED = 3;
    private static final int BOX = 4;
    private static final int ROW = 5;
    private static final int SHARED = 6;
    private static final int SOLE = 7;

    // Forms of what is declared.
    private static final int RECORD = 0;
    private static final int TOLD_RECORD = 1;
    private static final int CHOICE = 2;

    // Acts of places.
    private static final int ACT_READ = 0;
    private static final int ACT_MOVE = 1;
    private static final int ACT_LEND = 2;
    private static final int ACT_SOLE = 3;
    private static final int ACT_GIVE = 4;
    private static final int ACT_CHANGE = 5;
    private static final int ACT_OF_VALUE = 6;

    // Steps of places.
    private static final int STEP_FIELD = 0;
    private static final int STEP_BOX = 1;
    private static final int STEP_REFERENCE = 2;
    private static final int STEP_INDEX = 3;

    // What a slot of the code does: the first ones to a place, the next ones to values, the last ones to the way.
    private static final int OP_READ = 0;
    private static final int OP_MOVE = 1;
    private static final int OP_LEND = 2;
    private static final int OP_SOLE = 3;
    private static final int OP_GIVE = 4;
    private static final int OP_PUSH = 5;
    private static final int OP_POP = 6;
    private static final int OP_SWAP = 7;
    private static final int OP_LEN = 8;
    private static final int LAST_PLACE_OP = 8;
    private static final int OP_NUMBER = 10;
    private static final int OP_INPUT = 11;
    private static final int OP_CHAIN = 12;
    private static final int OP_MINUS = 13;
    private static final int OP_NOT = 14;
    private static final int OP_RECORD = 15;
    private static final int OP_VARIANT = 16;
    private static final int OP_BOX = 17;
    private static final int OP_OPEN = 18;
    private static final int OP_ROW = 19;
    private static final int LAST_VALUE_OP = 19;
    private static final int OP_PRINT = 20;
    private static final int OP_DROP = 21;
    private static final int OP_LET = 22;
    private static final int OP_LET_BARE = 23;
    private static final int OP_BIND = 24;
    private static final int OP_UNBOUND = 25;
    private static final int OP_MATCHED = 26;
    private static final int OP_ENDS = 27;
    private static final int LAST_VARIABLE_OP = 27;
    private static final int OP_STEP = 30;
    private static final int OP_JUMP = 31;
    private static final int OP_UNLESS = 32;
    private static final int OP_AND = 33;
    private static final int OP_OR = 34;
    private static final int OP_MATCH = 35;
    private static final int OP_CASE = 36;
    private static final int OP_CALL = 37;
    private static final int OP_RETURN = 38;
    private static final int OP_FAIL = 39;

    // Limits of runs, and why they fail.
    private static final int MOST_OUT = 1000;
    private static final int MOST_BOXES = 200;
    private static final int MOST_ROWS = 60;
    private static final int MOST_CALLS = 40;
    private static final int WHY_FAIL = 1;
    private static final int WHY_DIVISOR = 2;
    private static final int WHY_INDEX = 3;
    private static final int WHY_EMPTY = 4;
    private static final int WHY_FULL = 5;
    private static final int WHY_CALLS = 6;
    private static final int RAN = 0;
    private static final int FAILED = 1;
    private static final int CUT = 2;

    // The cells: the boxes' first, then the rows', then what the open calls have.
    private static final int ROWS_AT = MOST_BOXES * MOST_CELLS;
    private static final int ROW_CELLS = MOST_ELEMENTS * MOST_CELLS;
    private static final int CALLS_AT = ROWS_AT + MOST_ROWS * ROW_CELLS;
    private static final int FIRST_CELLS = 19456;
    private static final int MOST_MEMORY = 1 << 20;
    private static final int ROW_SPAN = 64;
    // Each box and row on the way down leaves at most its PARTS and itself waiting.
    private static final int DROPS = 4608;

    private static final int NO_PLACE = 1 << 30;
    // Far above what any loop of the judge or any drop can need.
    private static final int MANY = 1000000;
    private static final long MOST_SLOTS_RUN = 1L << 40;

    private final byte[] text = new byte[MOST_TEXT];
    private int textLength;
    private final long[] given = new long[MOST_GIVEN];
    private int givenTotal;
    private final Tree tree = new Tree();
    private final Reader reader = new Reader(tree);
    private final Checker checker = new Checker(tree);
    private final Emitter emitter = new Emitter(tree);
    private final Ways ways = new Ways();
    private final Machine machine = new Machine();
    private Program program = new Program();
    // Made when a text is judged while there is a program, which must stay if the text has a FAULT.
    private Program next;
    private boolean hasProgram;
    private boolean hasRun;
    private int faultKind = NONE;
    private int faultPlace = NONE;
    private int faultOther = NONE;

    public LoanHouse() {
    }

    public int feed(int a, int b, int c, int d, int e) {
        if (textLength + FED > MOST_TEXT) {
            return NONE;
        }
        feedNumber(a);
        feedNumber(b);
        feedNumber(c);
        feedNumber(d);
        feedNumber(e);
        return textLength;
    }

    private void feedNumber(int number) {
        for (int shift = 24; shift >= 0; shift -= 8) {
            text[textLength] = (byte) (number >> shift);
            textLength++;
        }
    }

    public int judge(int n) {
        if (n < 0 || n > textLength) {
            return NONE;
        }
        textLength = 0;
        faultOther = NONE;
        faultPlace = reader.read(text, n);
        faultKind = faultPlace >= 0 ? 1 : judgeTree(n);
        if (faultKind == 0) {
            faultPlace = NONE;
            takeNext();
        }
        return faultKind;
    }

    private void takeNext() {
        if (hasProgram) {
            Program older = program;
            program = next;
            next = older;
        }
        hasProgram = true;
        hasRun = false;
    }

    private int judgeTree(int length) {
        if (hasProgram && next == null) {
            next = new Program();
        }
        Program judged = hasProgram ? next : program;
        judged.clear();
        faultPlace = checker.check(judged, length);
        if (faultPlace >= 0) {
            return 2;
        }
        emitter.emitAll(judged);
        ways.follow(judged);
        if (ways.strayPlace() >= 0) {
            faultPlace = ways.strayPlace();
            faultOther = ways.strayOther();
            return 3;
        }
        if (ways.clashPlace() >= 0) {
            faultPlace = ways.clashPlace();
            faultOther = ways.clashOther();
            return 4;
        }
        return 0;
    }

    public int fault(int what) {
        switch (what) {
            case 0:
                return faultKind;
            case 1:
                return faultPlace;
            case 2:
                return faultOther;
            default:
                return NONE;
        }
    }

    public int give(long v) {
        if (givenTotal >= MOST_GIVEN) {
            return NONE;
        }
        given[givenTotal] = v;
        givenTotal++;
        return givenTotal;
    }

    public int run(int steps) {
        if (steps < 1 || steps > MOST_STEPS || !hasProgram) {
            return NONE;
        }
        hasRun = true;
        return machine.start(program, given, givenTotal, steps);
    }

    public int about(int what) {
        return hasRun ? machine.tell(what) : NONE;
    }

    public long out(int i, int what) {
        return hasRun ? machine.store.entry(i, what) : 0;
    }

    public int count(int what) {
        if (what < 0 || what > 3) {
            return NONE;
        }
        if (!hasProgram) {
            return 0;
        }
        switch (what) {
            case 0:
                return program.types.decls;
            case 1:
                return program.functions.total;
            case 2:
                return program.places.total;
            default:
                return program.places.loans;
        }
    }

    public int place(int i, int what) {
        return hasProgram ? program.places.tell(i, what) : NONE;
    }

    public int loan(int i, int what) {
        return hasProgram ? program.tellLoan(i, what) : NONE;
    }

    public int force(int i, int k) {
        return hasProgram ? program.inForce(i, k) : NONE;
    }

    public int function(int f, int what) {
        return hasProgram ? program.functions.tell(f, what) : NONE;
    }

    public int size(int i) {
        if (!hasProgram || i < 0 || i >= program.types.decls) {
            return NONE;
        }
        return program.types.declCells[i];
    }

    public int strays() {
        return hasRun ? machine.store.strays : 0;
    }

    public int twices() {
        return hasRun ? machine.store.twices : 0;
    }

    public int lefts() {
        return hasRun ? machine.left() : 0;
    }

    public int clashes() {
        // A run has none: FAULT 4 keeps out every text in which a & or &! could be used after such a change.
        return 0;
    }

    /** A text as a tree of nodes; node 0 is none. */
    private static final class Tree {
        private final int[] kind = new int[NODES];
        private final int[] pos = new int[NODES];
        private final int[] from = new int[NODES];
        private final int[] name = new int[NODES];
        // a is the list or the part that most nodes have, b and c are the other parts; a list goes on by next.
        private final int[] a = new int[NODES];
        private final int[] b = new int[NODES];
        private final int[] c = new int[NODES];
        private final int[] next = new int[NODES];
        // What the Reader tells of a number or a sign, then what the Checker finds.
        private final long[] value = new long[NODES];
        private final int[] type = new int[NODES];
        private final int[] ref = new int[NODES];
        private int total = 1;

        private void clear() {
            total = 1;
        }

        private int add(int newKind, int newPos) {
            if (total >= NODES) {
                return 0;
            }
            int node = total;
            total++;
            kind[node] = newKind;
            pos[node] = newPos;
            from[node] = newPos;
            name[node] = 0;
            a[node] = 0;
            b[node] = 0;
            c[node] = 0;
            next[node] = 0;
            value[node] = 0;
            type[node] = 0;
            ref[node] = 0;
            return node;
        }

        /** Puts a node behind the last one of its owner's list, and is that node. */
        private int append(int owner, int last, int node) {
            if (last == 0) {
                a[owner] = node;
            } else {
                next[last] = node;
            }
            return node;
        }
    }

    /** Reads a text into the tree, or finds the place of its FAULT 1. */
    private static final class Reader {
        private final Tree tree;
        // The words of the language stand ahead of the text, so that all names are found in one row.
        private final byte[] pool = new byte[WORDS.length() + MOST_TEXT];
        private final int[] nameStart = new int[NAMES];
        private final int[] nameLength = new int[NAMES];
        private final int[] nameNext = new int[NAMES];
        private final int[] heads = new int[256];
        private int names;
        private int at;
        private int end;
        private final int[] tokenKind = new int[TOKENS];
        private final int[] tokenPos = new int[TOKENS];
        // Which name a word is, or the number.
        private final long[] tokenValue = new long[TOKENS];
        private int tokens;
        // The token that the grammar looks at.
        private int current;
        private int kind;
        private int pos;
        private int open;
        private int wrong;

        private Reader(Tree tree) {
            this.tree = tree;
            for (int i = 0; i < WORDS.length(); i++) {
                pool[i] = (byte) WORDS.charAt(i);
            }
        }

        /** The place of the FAULT, or NONE when the tree holds the text. */
        private int read(byte[] text, int length) {
            System.arraycopy(text, 0, pool, WORDS.length(), length);
            at = WORDS.length();
            end = at + length;
            open = 0;
            wrong = NONE;
            takeWords();
            takeTokens();
            tree.clear();
            current = NONE;
            advance();
            int root = tree.add(TEXT, 0);
            int last = 0;
            for (int turn = 0; turn <= MOST_TEXT && kind != END && wrong < 0; turn++) {
                int start = pos;
                int item = 0;
                if (kind == W_RECORD) {
                    item = record();
                } else if (kind == W_CHOICE) {
                    item = choice();
                } else if (kind == W_FN) {
                    item = fn();
                } else {
                    fail();
                }
                tree.from[item] = start;
                last = tree.append(root, last, item);
            }
            return wrong;
        }

        private void takeWords() {
            names = 0;
            for (int i = 0; i < heads.length; i++) {
                heads[i] = NONE;
            }
            int start = 0;
            for (int i = 0; i <= WORDS.length(); i++) {
                if (i == WORDS.length() || WORDS.charAt(i) == ' ') {
                    nameOf(start, i - start);
                    start = i + 1;
                }
            }
        }

        private int nameOf(int start, int length) {
            int hash = 0;
            for (int i = 0; i < length; i++) {
                hash = hash * 31 + pool[start + i];
            }
            int head = hash & 255;
            for (int id = heads[head]; id >= 0; id = nameNext[id]) {
                if (nameLength[id] == length && alike(nameStart[id], start, length)) {
                    return id;
                }
            }
            if (names >= NAMES) {
                return 0;
            }
            nameStart[names] = start;
            nameLength[names] = length;
            nameNext[names] = heads[head];
            heads[head] = names;
            names++;
            return names - 1;
        }

        private boolean alike(int one, int other, int length) {
            for (int i = 0; i < length; i++) {
                if (pool[one + i] != pool[other + i]) {
                    return false;
                }
            }
            return true;
        }

        // ---- tokens

        private void takeTokens() {
            tokens = 0;
            int token = NAME;
            for (int turn = 0; turn <= MOST_TEXT && token != END && token != BAD; turn++) {
                skipBlanks();
                tokenPos[tokens] = at - WORDS.length();
                if (at >= end) {
                    token = END;
                } else if (letter(pool[at])) {
                    token = takeWord();
                } else {
                    token = digit(pool[at]) ? takeNumber() : takeSign();
                }
                tokenKind[tokens] = token;
                tokens++;
            }
        }

        private void skipBlanks() {
            boolean comment = false;
            for (; at < end; at++) {
                int sign = pool[at];
                boolean blank = sign == 9 || sign == 10 || sign == 13 || sign == 32;
                // A byte that no text holds is a fault in a comment too.
                boolean told = comment && sign >= 32 && sign <= 126;
                if (!blank && !told && sign != '#') {
                    return;
                }
                comment = (comment || sign == '#') && sign != 10;
            }
        }

        private int takeWord() {
            int start = at;
            while (at < end && (letter(pool[at]) || digit(pool[at]) || pool[at] == '_')) {
                at++;
            }
            if (at - start > MOST_SIGNS) {
                return BAD;
            }
            int name = nameOf(start, at - start);
            tokenValue[tokens] = name;
            return name < WORD_COUNT ? W_RECORD + name : NAME;
        }

        private int takeNumber() {
            long number = 0;
            for (; at < end && digit(pool[at]); at++) {
                int value = pool[at] - '0';
                if (number > (Long.MAX_VALUE - value) / 10) {
                    return BAD;
                }
                number = number * 10 + value;
            }
            tokenValue[tokens] = number;
            return at < end && letter(pool[at]) ? BAD : NUMBER;
        }

        private int takeSign() {
            int sign = pool[at];
            int pair = pairOf(sign, at + 1 < end ? pool[at + 1] : 0);
            if (pair != BAD) {
                at += 2;
                return pair;
            }
            at++;
            return sign > 0 && SINGLES.indexOf((char) sign) >= 0 ? sign : BAD;
        }

        private static int pairOf(int one, int two) {
            if (two == '=') {
                switch (one) {
                    case '=':
                        return EQUAL;
                    case '!':
                        return UNEQUAL;
                    case '<':
                        return AT_MOST;
                    case '>':
                        return AT_LEAST;
                    default:
                        return BAD;
                }
            }
            if (one == '&' && two == '!') {
                return SOLE_SIGN;
            }
            if (one == '-' && two == '>') {
                return ARROW;
            }
            return one == '=' && two == '>' ? FAT_ARROW : BAD;
        }

        private static boolean letter(int sign) {
            return sign >= 'A' && sign <= 'Z' || sign >= 'a' && sign <= 'z';
        }

        private static boolean digit(int sign) {
            return sign >= '0' && sign <= '9';
        }

        // ---- what the grammar asks for; behind a fault no token is any more what is asked for

        private void advance() {
            if (wrong < 0 && current + 1 < tokens) {
                current++;
                kind = tokenKind[current];
                pos = tokenPos[current];
            }
        }

        private void fail() {
            if (wrong < 0) {
                wrong = pos;
            }
            kind = BAD;
        }

        private void expect(int due) {
            if (kind == due) {
                advance();
            } else {
                fail();
            }
        }

        private boolean accept(int due) {
            if (kind != due) {
                return false;
            }
            advance();
            return true;
        }

        /** Takes the token as one more that is open; false, and a fault, if there are too many. */
        private boolean deepen() {
            if (open >= MOST_OPEN) {
                fail();
                return false;
            }
            open++;
            advance();
            return true;
        }

        private void expectOpen(int due) {
            if (kind == due) {
                deepen();
            } else {
                fail();
            }
        }

        private void expectClose(int due) {
            if (kind == due) {
                open--;
            }
            expect(due);
        }

        private int take(int newKind) {
            int node = tree.add(newKind, pos);
            advance();
            return node;
        }

        private int takeNamed(int newKind) {
            int node = tree.add(newKind, pos);
            if (kind == NAME) {
                tree.name[node] = (int) tokenValue[current];
                advance();
            } else {
                fail();
            }
            return node;
        }

        // ---- items

        private int record() {
            advance();
            int node = takeNamed(W_RECORD);
            tree.ref[node] = accept(W_TOLD) ? TOLD_RECORD : RECORD;
            expectOpen('{');
            fields(node, '}');
            expectClose('}');
            return node;
        }

        private int choice() {
            advance();
            int node = takeNamed(W_CHOICE);
            tree.ref[node] = CHOICE;
            expectOpen('{');
            variants(node);
            expectClose('}');
            return node;
        }

        private int fn() {
            advance();
            int node = takeNamed(W_FN);
            expectOpen('(');
            fields(node, ')');
            expectClose(')');
            if (accept(ARROW)) {
                int result = type();
                tree.b[node] = result;
                if (kind == W_OF) {
                    tree.next[result] = take(W_OF);
                    names(tree.next[result], false);
                }
            }
            tree.c[node] = block();
            return node;
        }

        private void fields(int owner, int close) {
            if (kind == close) {
                return;
            }
            int last = 0;
            for (int turn = 0; turn <= MOST_TEXT; turn++) {
                int field = takeNamed(FIELD);
                expect(':');
                tree.a[field] = type();
                last = tree.append(owner, last, field);
                if (!accept(',')) {
                    return;
                }
            }
        }

        private void variants(int owner) {
            int last = 0;
            for (int turn = 0; turn <= MOST_TEXT; turn++) {
                int variant = takeNamed(VARIANT);
                last = tree.append(owner, last, variant);
                if (kind == '(') {
                    deepen();
                    int lastType = tree.append(variant, 0, type());
                    for (int more = 0; more <= MOST_TEXT && accept(','); more++) {
                        lastType = tree.append(variant, lastType, type());
                    }
                    expectClose(')');
                }
                if (!accept(',')) {
                    return;
                }
            }
        }

        /** Names behind commas; also _ where they are binds. */
        private void names(int owner, boolean binds) {
            int last = 0;
            for (int turn = 0; turn <= MOST_TEXT; turn++) {
                boolean none = binds && kind == '_';
                last = tree.append(owner, last, none ? take(BIND) : takeNamed(BIND));
                if (!accept(',')) {
                    return;
                }
            }
        }

        private int type() {
            int node;
            switch (kind) {
                case W_INT:
                case W_BOOL:
                    return take(kind);
                case NAME:
                    return takeNamed(NAME);
                case W_BOX:
                case W_ROW:
                case '&':
                case SOLE_SIGN:
                    node = tree.add(kind, pos);
                    if (deepen()) {
                        tree.a[node] = type();
                        open--;
                    }
                    return node;
                default:
                    fail();
                    return 0;
            }
        }

        // ---- statements

        private int block() {
            int node = tree.add(BLOCK, pos);
            expectOpen('{');
            int last = 0;
            for (int turn = 0; turn <= MOST_TEXT && kind != '}' && wrong < 0; turn++) {
                last = tree.append(node, last, statement());
            }
            tree.pos[node] = pos;
            expectClose('}');
            return node;
        }

        private int statement() {
            switch (kind) {
                case W_IF:
                    return choose();
                case W_WHILE:
                    return whileStatement();
                case W_MATCH:
                    return match();
                default:
                    int node = plainStatement();
                    expect(';');
                    return node;
            }
        }

        private int plainStatement() {
            int node;
            switch (kind) {
                case W_LET:
                    advance();
                    node = takeNamed(W_LET);
                    tree.a[node] = accept(':') ? type() : 0;
                    tree.b[node] = accept('=') ? exp() : 0;
                    return node;
                case W_PUSH:
                    node = take(kind);
                    pair(node);
                    return node;
                case W_BREAK:
                case W_CONTINUE:
                case W_FAIL:
                    return take(kind);
                case W_RETURN:
                    node = take(kind);
                    tree.b[node] = kind == ';' ? 0 : exp();
                    return node;
                case W_PRINT:
                    node = take(kind);
                    tree.b[node] = exp();
                    return node;
                case W_POP:
                case W_SWAP:
                    node = tree.add(DO, pos);
                    tree.b[node] = primary();
                    return node;
                case NAME:
                    return assignOrCall();
                default:
                    fail();
                    return 0;
            }
        }

        private int assignOrCall() {
            int named = named();
            if (tree.kind[named] == CALL) {
                int node = tree.add(DO, tree.pos[named]);
                tree.b[node] = named;
                return node;
            }
            int node = tree.add(ASSIGN, pos);
            tree.a[node] = named;
            expect('=');
            tree.b[node] = exp();
            return node;
        }

        private int choose() {
            int node = take(W_IF);
            tree.b[node] = exp();
            tree.a[node] = block();
            if (accept(W_ELSE)) {
                tree.c[node] = kind == W_IF ? chooseBehind() : block();
            }
            return node;
        }

        private int chooseBehind() {
            if (open >= MOST_OPEN) {
                fail();
                return 0;
            }
            open++;
            int node = choose();
            open--;
            return node;
        }

        private int whileStatement() {
            int node = take(W_WHILE);
            tree.b[node] = exp();
            tree.a[node] = block();
            return node;
        }

        private int match() {
            int node = take(W_MATCH);
            tree.b[node] = exp();
            expectOpen('{');
            int last = 0;
            for (int turn = 0; turn <= MOST_TEXT && kind != '}' && wrong < 0; turn++) {
                last = tree.append(node, last, arm());
            }
            expectClose('}');
            return node;
        }

        private int arm() {
            if (kind == '_') {
                int rest = take(ARM);
                expect(FAT_ARROW);
                tree.b[rest] = block();
                return rest;
            }
            int node = takeNamed(ARM);
            if (kind == '(') {
                deepen();
                names(node, true);
                expectClose(')');
            }
            expect(FAT_ARROW);
            tree.b[node] = block();
            return node;
        }

        // ---- exps

        private int exp() {
            return chain(0);
        }

        private static int levelOf(int token) {
            switch (token) {
                case W_OR:
                    return 0;
                case W_AND:
                    return 1;
                case EQUAL:
                case UNEQUAL:
                case '<':
                case '>':
                case AT_MOST:
                case AT_LEAST:
                    return 2;
                case '+':
                case '-':
                    return 3;
                case '*':
                case '/':
                case '%':
                    return 4;
                default:
                    return NONE;
            }
        }

        /** The exps between signs of a level: the first of the chain's nodes has the first of them as c. */
        private int chain(int level) {
            if (level > 4) {
                return ahead();
            }
            int first = chain(level + 1);
            int head = 0;
            int last = 0;
            for (int turn = 0; turn <= MOST_TEXT && levelOf(kind) == level; turn++) {
                if (level == 2 && head != 0) {
                    return head;
                }
                int sign = kind;
                int link = take(CHAIN);
                tree.ref[link] = sign;
                tree.a[link] = chain(level + 1);
                if (head == 0) {
                    head = link;
                    tree.c[link] = first;
                    tree.from[link] = tree.from[first];
                } else {
                    tree.b[last] = link;
                }
                last = link;
            }
            return head == 0 ? first : head;
        }

        private int ahead() {
            if (kind != W_NOT && kind != '-') {
                return primary();
            }
            int node = tree.add(kind, pos);
            if (deepen()) {
                tree.b[node] = ahead();
                open--;
            }
            return node;
        }

        private int primary() {
            int node;
            switch (kind) {
                case NUMBER:
                    node = tree.add(NUMBER, pos);
                    tree.value[node] = tokenValue[current];
                    advance();
                    return node;
                case W_TRUE:
                case W_FALSE:
                case W_READ:
                    return take(kind);
                case NAME:
                    return named();
                case '&':
                case SOLE_SIGN:
                    node = take(kind);
                    tree.a[node] = spot();
                    return node;
                case W_NEW:
                    return made();
                case W_ROW:
                    return rowOf();
                case W_SWAP:
                    node = take(kind);
                    pair(node);
                    return node;
                case W_BOX:
                case W_OPEN:
                case W_LEN:
                case W_POP:
                case '(':
                    return bracketed();
                default:
                    fail();
                    return 0;
            }
        }

        private int bracketed() {
            int word = kind;
            int start = pos;
            int node = word == '(' ? 0 : take(word);
            expectOpen('(');
            if (word == '(') {
                node = exp();
                tree.from[node] = start;
            } else if (word == W_BOX || word == W_OPEN) {
                tree.b[node] = exp();
            } else {
                tree.a[node] = spot();
            }
            expectClose(')');
            return node;
        }

        /** A place and an exp in brackets, of a push or a swap. */
        private void pair(int node) {
            expectOpen('(');
            tree.a[node] = spot();
            expect(',');
            tree.b[node] = exp();
            expectClose(')');
        }

        private int made() {
            int start = pos;
            advance();
            int node = takeNamed(W_NEW);
            tree.from[node] = start;
            if (accept('.')) {
                tree.kind[node] = NEW_VARIANT;
                tree.b[node] = takeNamed(VARIANT);
                if (kind == '(') {
                    deepen();
                    exps(node);
                    expectClose(')');
                }
                return node;
            }
            expectOpen('{');
            if (kind != '}') {
                inits(node);
            }
            expectClose('}');
            return node;
        }

        private void inits(int owner) {
            int last = 0;
            for (int turn = 0; turn <= MOST_TEXT; turn++) {
                int init = takeNamed(INIT);
                expect(':');
                tree.b[init] = exp();
                last = tree.append(owner, last, init);
                if (!accept(',')) {
                    return;
                }
            }
        }

        private int rowOf() {
            int node = take(W_ROW);
            tree.b[node] = type();
            expectOpen('[');
            if (kind != ']') {
                exps(node);
            }
            expectClose(']');
            return node;
        }

        private void exps(int owner) {
            int last = 0;
            for (int turn = 0; turn <= MOST_TEXT; turn++) {
                last = tree.append(owner, last, exp());
                if (!accept(',')) {
                    return;
                }
            }
        }

        private int named() {
            int node = takeNamed(NAME);
            if (kind != '(') {
                placeSteps(node);
                return node;
            }
            tree.kind[node] = CALL;
            deepen();
            if (kind != ')') {
                exps(node);
            }
            expectClose(')');
            return node;
        }

        private int spot() {
            int node = takeNamed(NAME);
            placeSteps(node);
            return node;
        }

        private void placeSteps(int node) {
            int last = 0;
            for (int turn = 0; turn <= MOST_TEXT && (kind == '.' || kind == '^' || kind == '['); turn++) {
                int step = tree.add(kind, pos);
                if (kind == '[') {
                    deepen();
                    tree.b[step] = exp();
                    expectClose(']');
                } else if (accept('.')) {
                    int field = takeNamed(FIELD);
                    tree.from[step] = tree.pos[field];
                    tree.name[step] = tree.name[field];
                } else {
                    advance();
                }
                last = tree.append(node, last, step);
            }
        }
    }

    /** All types of a text, each once, and the records and choices with their fields and variants. */
    private static final class Types {
        private final int[] kind = new int[TYPES];
        private final int[] arg = new int[TYPES];
        private int total;
        private final int[] declName = new int[DECLS];
        private final int[] declForm = new int[DECLS];
        // Of a record its fields among the members, of a choice its variants among the variants.
        private final int[] declFirst = new int[DECLS];
        private final int[] declWidth = new int[DECLS];
        // NONE is what has itself within, or such a one.
        private final int[] declCells = new int[DECLS];
        private final int[] declParts = new int[DECLS];
        private final int[] declLeaves = new int[DECLS];
        private int decls;
        private final int[] variantName = new int[MEMBERS];
        private final int[] variantFirst = new int[MEMBERS];
        private final int[] variantWidth = new int[MEMBERS];
        private int variants;
        private final int[] memberName = new int[MEMBERS];
        private final int[] memberType = new int[MEMBERS];
        private final int[] memberCell = new int[MEMBERS];
        private int members;

        private void clear() {
            decls = 0;
            variants = 0;
            members = 0;
            total = NAMED;
            kind[UNTYPED] = UNTYPED;
            kind[INT] = INT;
            kind[BOOL] = BOOL;
        }

        /** The type of this kind: a record or choice, or a box, row or reference of a type; 0 of what has none. */
        private int typeOf(int newKind, int newArg) {
            if (newKind != NAMED && newArg == UNTYPED) {
                return UNTYPED;
            }
            for (int t = NAMED; t < total; t++) {
                if (kind[t] == newKind && arg[t] == newArg) {
                    return t;
                }
            }
            if (total >= TYPES) {
                return UNTYPED;
            }
            kind[total] = newKind;
            arg[total] = newArg;
            total++;
            return total - 1;
        }

        private boolean isReference(int t) {
            return kind[t] == SHARED || kind[t] == SOLE;
        }

        private boolean isCopied(int t) {
            return t == INT || t == BOOL || kind[t] == SHARED;
        }

        private boolean isRecord(int t) {
            return kind[t] == NAMED && declForm[arg[t]] != CHOICE;
        }

        private boolean isTold(int t) {
            return kind[t] == NAMED && declForm[arg[t]] == TOLD_RECORD;
        }

        /** Whether a variable of the type has the LEAVES of its fields, and is none itself. */
        private boolean isOpened(int t) {
            return kind[t] == NAMED && declForm[arg[t]] == RECORD && declWidth[arg[t]] > 0 && declCells[arg[t]] >= 0;
        }

        private int cellsOf(int t) {
            if (t == UNTYPED) {
                return 0;
            }
            return kind[t] == NAMED ? declCells[arg[t]] : 1;
        }

        private int partsOf(int t) {
            if (t == UNTYPED) {
                return 0;
            }
            return kind[t] == NAMED ? declParts[arg[t]] : 1;
        }

        private int leavesOf(int t) {
            if (t == UNTYPED) {
                return 0;
            }
            return isOpened(t) ? declLeaves[arg[t]] : 1;
        }

        /** The record or choice that a type is, or a reference means; NONE if it is none. */
        private int meantDecl(int t) {
            int meant = isReference(t) ? arg[t] : t;
            return kind[meant] == NAMED ? arg[meant] : NONE;
        }

        private int findDecl(int name) {
            for (int d = 0; d < decls; d++) {
                if (declName[d] == name) {
                    return d;
                }
            }
            return NONE;
        }

        private int findField(int decl, int name) {
            for (int m = declFirst[decl]; m < declFirst[decl] + declWidth[decl]; m++) {
                if (memberName[m] == name) {
                    return m;
                }
            }
            return NONE;
        }

        private int findVariant(int decl, int name) {
            for (int v = declFirst[decl]; v < declFirst[decl] + declWidth[decl]; v++) {
                if (variantName[v] == name) {
                    return v;
                }
            }
            return NONE;
        }

        private void addDecl(int name, int form) {
            if (decls < DECLS) {
                declName[decls] = name;
                declForm[decls] = form;
                declFirst[decls] = 0;
                declWidth[decls] = 0;
                declCells[decls] = NONE;
                declParts[decls] = 0;
                declLeaves[decls] = 1;
                decls++;
            }
        }

        private void addVariant(int name) {
            if (variants < MEMBERS) {
                variantName[variants] = name;
                variantFirst[variants] = members;
                variantWidth[variants] = 0;
                variants++;
            }
        }

        private void addMember(int name, int type) {
            if (members < MEMBERS) {
                memberName[members] = name;
                memberType[members] = type;
                memberCell[members] = 0;
                members++;
            }
        }

        /** Finds cells, PARTS and LEAVES, from those that have only known ones within outwards. */
        private void measure() {
            boolean more = true;
            for (int turn = 0; turn <= decls && more; turn++) {
                more = false;
                for (int d = 0; d < decls; d++) {
                    if (declCells[d] < 0 && known(d)) {
                        measureDecl(d);
                        more = true;
                    }
                }
            }
        }

        private int firstMember(int d) {
            if (declForm[d] != CHOICE) {
                return declFirst[d];
            }
            return declWidth[d] == 0 ? 0 : variantFirst[declFirst[d]];
        }

        private int endMember(int d) {
            if (declForm[d] != CHOICE) {
                return declFirst[d] + declWidth[d];
            }
            int last = declFirst[d] + declWidth[d] - 1;
            return declWidth[d] == 0 ? 0 : variantFirst[last] + variantWidth[last];
        }

        private boolean known(int d) {
            for (int m = firstMember(d); m < endMember(d); m++) {
                if (cellsOf(memberType[m]) < 0) {
                    return false;
                }
            }
            return true;
        }

        private void measureDecl(int d) {
            int cells = 0;
            int parts = 0;
            if (declForm[d] != CHOICE) {
                cells = layOut(declFirst[d], declWidth[d], 0);
                parts = sumOfParts(declFirst[d], declWidth[d]);
            }
            for (int v = declFirst[d]; declForm[d] == CHOICE && v < declFirst[d] + declWidth[d]; v++) {
                cells = Math.max(cells, layOut(variantFirst[v], variantWidth[v], 1));
                parts = Math.max(parts, sumOfParts(variantFirst[v], variantWidth[v]));
            }
            boolean bare = declForm[d] != CHOICE && declWidth[d] == 0;
            declCells[d] = bare ? 1 : Math.min(cells, MANY);
            declParts[d] = Math.min(parts + 1, MANY);
            int leaves = 0;
            for (int m = declFirst[d]; declForm[d] == RECORD && m < declFirst[d] + declWidth[d]; m++) {
                leaves = Math.min(leaves + leavesOf(memberType[m]), MANY);
            }
            declLeaves[d] = leaves;
        }

        private int layOut(int first, int width, int start) {
            int cells = start;
            for (int m = first; m < first + width; m++) {
                memberCell[m] = cells;
                cells = Math.min(cells + cellsOf(memberType[m]), MANY);
            }
            return cells;
        }

        private int sumOfParts(int first, int width) {
            int parts = 0;
            for (int m = first; m < first + width; m++) {
                parts = Math.min(parts + partsOf(memberType[m]), MANY);
            }
            return parts;
        }
    }

    /** The functions of a text, by text, and what is known of each. */
    private static final class Functions {
        private final int[] name = new int[FUNCTIONS];
        private final int[] node = new int[FUNCTIONS];
        private final int[] result = new int[FUNCTIONS];
        // Bit i: param i stands behind of.
        private final long[] of = new long[FUNCTIONS];
        private final int[] params = new int[FUNCTIONS];
        private final int[] firstParam = new int[FUNCTIONS];
        private final int[] paramType = new int[MEMBERS];
        private int paramTotal;
        private final int[] firstVariable = new int[FUNCTIONS];
        private final int[] variables = new int[FUNCTIONS];
        private final int[] firstLeaf = new int[FUNCTIONS];
        private final int[] leaves = new int[FUNCTIONS];
        private final int[] splits = new int[FUNCTIONS];
        private final int[] firstLoan = new int[FUNCTIONS];
        private final int[] loans = new int[FUNCTIONS];
        private final int[] entry = new int[FUNCTIONS];
        private final int[] cells = new int[FUNCTIONS];
        private int total;
        private int main;

        private void clear() {
            total = 0;
            paramTotal = 0;
            main = NONE;
        }

        private void add(int newName, int newNode) {
            if (total < FUNCTIONS) {
                name[total] = newName;
                node[total] = newNode;
                result[total] = UNTYPED;
                of[total] = 0;
                params[total] = 0;
                firstParam[total] = paramTotal;
                firstVariable[total] = 0;
                variables[total] = 0;
                firstLeaf[total] = 0;
                leaves[total] = 0;
                splits[total] = 0;
                firstLoan[total] = 0;
                loans[total] = 0;
                entry[total] = 0;
                cells[total] = 0;
                total++;
            }
        }

        private void addParam(int f, int type) {
            if (paramTotal < MEMBERS) {
                paramType[paramTotal] = type;
                paramTotal++;
                params[f]++;
            }
        }

        private int find(int wanted) {
            for (int f = 0; f < total; f++) {
                if (name[f] == wanted) {
                    return f;
                }
            }
            return NONE;
        }

        private int tell(int f, int what) {
            if (f < 0 || f >= total) {
                return NONE;
            }
            switch (what) {
                case 0:
                    return variables[f];
                case 1:
                    return leaves[f];
                case 2:
                    return splits[f];
                case 3:
                    return loans[f];
                default:
                    return NONE;
            }
        }
    }

    /** The variables of a text, by text, and their LEAVES. */
    private static final class Variables {
        private final int[] name = new int[VARIABLES];
        private final int[] pos = new int[VARIABLES];
        private final int[] type = new int[VARIABLES];
        // The one that was in scope last when this one came into it.
        private final int[] outer = new int[VARIABLES];
        private final int[] firstLeaf = new int[VARIABLES];
        private final int[] leafCount = new int[VARIABLES];
        private final int[] cell = new int[VARIABLES];
        // Bit i: LOAN i of the fn is of a place that this one's name begins.
        private final long[] loans = new long[VARIABLES];
        private int total;
        private final int[] leafType = new int[MOST_FUNCTIONS * MOST_LEAVES];
        private final int[] leafCell = new int[MOST_FUNCTIONS * MOST_LEAVES];
        private int leaves;

        private void clear() {
            total = 0;
            leaves = 0;
        }

        private int add(int newName, int newPos, int newType, int newOuter) {
            if (total >= VARIABLES) {
                return newOuter;
            }
            name[total] = newName;
            pos[total] = newPos;
            type[total] = newType;
            outer[total] = newOuter;
            firstLeaf[total] = 0;
            leafCount[total] = 0;
            cell[total] = 0;
            loans[total] = 0;
            total++;
            return total - 1;
        }

        /** The LEAVES of a variable as bits, counted from its fn's first LEAF. */
        private long leafBits(int v, int from) {
            return ((1L << leafCount[v]) - 1) << (firstLeaf[v] - from);
        }

        private int find(int wanted, int latest) {
            for (int v = latest; v >= 0; v = outer[v]) {
                if (name[v] == wanted) {
                    return v;
                }
            }
            return NONE;
        }

        private void addLeaf(int newType, int newCell) {
            if (leaves < leafType.length) {
                leafType[leaves] = newType;
                leafCell[leaves] = newCell;
                leaves++;
            }
        }
    }

    /** The places of a text, by text, and the LOANS of them. */
    private static final class Places {
        private final int[] pos = new int[MOST_PLACES];
        private final int[] act = new int[MOST_PLACES];
        private final int[] fn = new int[MOST_PLACES];
        private final int[] variable = new int[MOST_PLACES];
        private final int[] type = new int[MOST_PLACES];
        private final int[] firstStep = new int[MOST_PLACES];
        private final int[] steps = new int[MOST_PLACES];
        // The first LEAF (counted in the fn) that it is, has or is of, and how many it is or has.
        private final int[] leaf = new int[MOST_PLACES];
        private final int[] leaves = new int[MOST_PLACES];
        private final boolean[] further = new boolean[MOST_PLACES];
        private final boolean[] come = new boolean[MOST_PLACES];
        // Bit i: LOAN i of the fn is in force at the act.
        private final long[] force = new long[MOST_PLACES];
        private int total;
        private final int[] stepKind = new int[STEPS];
        private final int[] stepCell = new int[STEPS];
        private final int[] stepPos = new int[STEPS];
        private int stepTotal;
        private final int[] loanPos = new int[MOST_PLACES];
        private final int[] loanPlace = new int[MOST_PLACES];
        private int loans;

        private void clear() {
            total = 0;
            stepTotal = 0;
            loans = 0;
        }

        private int add(int newPos, int newFn, int newVariable) {
            if (total >= MOST_PLACES) {
                return NONE;
            }
            pos[total] = newPos;
            act[total] = ACT_READ;
            fn[total] = newFn;
            variable[total] = newVariable;
            type[total] = UNTYPED;
            firstStep[total] = 0;
            steps[total] = 0;
            leaf[total] = 0;
            leaves[total] = 0;
            further[total] = false;
            come[total] = false;
            force[total] = 0;
            total++;
            return total - 1;
        }

        private void addStep(int newKind, int newCell, int newPos) {
            if (stepTotal < STEPS) {
                stepKind[stepTotal] = newKind;
                stepCell[stepTotal] = newCell;
                stepPos[stepTotal] = newPos;
                stepTotal++;
            }
        }

        private int addLoan(int newPos, int newPlace) {
            if (loans >= MOST_PLACES) {
                return NONE;
            }
            loanPos[loans] = newPos;
            loanPlace[loans] = newPlace;
            loans++;
            return loans - 1;
        }

        private long leafBits(int p) {
            return ((1L << leaves[p]) - 1) << leaf[p];
        }

        private int indices(int p) {
            int indices = 0;
            for (int s = firstStep[p]; s < firstStep[p] + steps[p]; s++) {
                if (stepKind[s] == STEP_INDEX) {
                    indices++;
                }
            }
            return indices;
        }

        /** Whether one of the places begins with the other. */
        private boolean meet(int p, int q) {
            if (variable[p] != variable[q]) {
                return false;
            }
            int common = Math.min(steps[p], steps[q]);
            for (int i = 0; i < common; i++) {
                int s = firstStep[p] + i;
                int t = firstStep[q] + i;
                if (stepKind[s] != stepKind[t] || stepCell[s] != stepCell[t]) {
                    return false;
                }
            }
            return true;
        }

        private int tell(int i, int what) {
            if (i < 0 || i >= total) {
                return NONE;
            }
            switch (what) {
                case 0:
                    return pos[i];
                case 1:
                    return act[i];
                case 2:
                    return fn[i];
                case 3:
                    return Long.bitCount(force[i]);
                case 4:
                    return come[i] ? 1 : 0;
                default:
                    return NONE;
            }
        }
    }

    /** What a text is to be run by: its types, functions, variables and places, and the code that they act in. */
    private static final class Program {
        private final Types types = new Types();
        private final Functions functions = new Functions();
        private final Variables variables = new Variables();
        private final Places places = new Places();
        private final int[] op = new int[SLOTS];
        private final int[] x = new int[SLOTS];
        private final int[] y = new int[SLOTS];
        private final int[] z = new int[SLOTS];
        private final int[] pos = new int[SLOTS];
        // The number of the label that jumps to a slot lead to, or NONE.
        private final int[] label = new int[SLOTS];
        private int slots;
        private int labels;
        private int matches;
        // Where the fields of each new record go, in the order of its exps.
        private final int[] order = new int[ORDERS];
        private int orders;

        private void clear() {
            types.clear();
            functions.clear();
            variables.clear();
            places.clear();
            slots = 0;
            labels = 0;
            matches = 0;
            orders = 0;
        }

        private int add(int newOp, int newX, int newY, int newZ, int newPos) {
            if (slots >= SLOTS) {
                return 0;
            }
            op[slots] = newOp;
            x[slots] = newX;
            y[slots] = newY;
            z[slots] = newZ;
            pos[slots] = newPos;
            label[slots] = NONE;
            slots++;
            return slots - 1;
        }

        private void addOrder(int cell) {
            if (orders < ORDERS) {
                order[orders] = cell;
                orders++;
            }
        }

        private int endOf(int f) {
            return f + 1 < functions.total ? functions.entry[f + 1] : slots;
        }

        /** Whether a slot's way goes on to the next one. */
        private boolean goesOn(int at) {
            return op[at] != OP_JUMP && op[at] != OP_RETURN && op[at] != OP_FAIL;
        }

        /** The slot that a way may leap to, or NONE. */
        private int leap(int at) {
            return op[at] >= OP_JUMP && op[at] <= OP_CASE && op[at] != OP_MATCH ? x[at] : NONE;
        }

        private boolean isSole(int loan) {
            return places.act[places.loanPlace[loan]] == ACT_SOLE;
        }

        private boolean isOwnLoan(int loan, int k) {
            return places.fn[places.loanPlace[loan]] == places.fn[k];
        }

        private int inForce(int i, int k) {
            if (i < 0 || i >= places.loans || k < 0 || k >= places.total) {
                return NONE;
            }
            if (!isOwnLoan(i, k)) {
                return 0;
            }
            return (int) (places.force[k] >> (i - functions.firstLoan[places.fn[k]]) & 1);
        }

        private int tellLoan(int i, int what) {
            if (i < 0 || i >= places.loans) {
                return NONE;
            }
            switch (what) {
                case 0:
                    return places.loanPos[i];
                case 1:
                    return isSole(i) ? 1 : 0;
                case 2:
                    return places.loanPlace[i];
                case 3:
                    int acts = 0;
                    for (int k = 0; k < places.total; k++) {
                        acts += inForce(i, k);
                    }
                    return acts;
                default:
                    return NONE;
            }
        }
    }

    /** Looks at what the RULES ask for, and finds the least place of FAULT 2; the tree is told what was found. */
    private static final class Checker {
        private final Tree tree;
        private Types types;
        private Functions functions;
        private Variables variables;
        private Places places;
        private int least;
        private int fn;
        // The latest variable in scope.
        private int top;
        private int whiles;
        // Whether the place that was looked at last goes through the ^ of a &, and whether it can be moved from.
        private boolean shared;
        private boolean movable;

        private Checker(Tree tree) {
            this.tree = tree;
        }

        /** The least place at which a rule is broken, or NONE. */
        private int check(Program program, int length) {
            types = program.types;
            functions = program.functions;
            variables = program.variables;
            places = program.places;
            least = NO_PLACE;
            int items = tree.a[1];
            declareAll(items);
            int d = 0;
            for (int item = items; item != 0; item = tree.next[item]) {
                if (tree.kind[item] != W_FN) {
                    members(item, d);
                    d++;
                }
            }
            types.measure();
            measures(items);
            for (int f = 0; f < functions.total; f++) {
                signature(f);
            }
            for (int f = 0; f < functions.total; f++) {
                body(f);
            }
            mainFunction(length);
            return least == NO_PLACE ? NONE : least;
        }

        private void broken(int pos) {
            least = Math.min(least, pos);
        }

        // ---- what is declared

        private void declareAll(int items) {
            for (int item = items; item != 0; item = tree.next[item]) {
                int name = tree.name[item];
                if (tree.kind[item] == W_FN) {
                    withinLimit(functions.total, MOST_FUNCTIONS, tree.from[item]);
                    unlike(functions.find(name), tree.pos[item]);
                    functions.add(name, item);
                } else {
                    withinLimit(types.decls, MOST_DECLS, tree.from[item]);
                    unlike(types.findDecl(name), tree.pos[item]);
                    types.addDecl(name, tree.ref[item]);
                }
            }
        }

        /** Whether there may be one more of what there are so many of already. */
        private boolean withinLimit(int already, int most, int pos) {
            if (already >= most) {
                broken(pos);
            }
            return already < most;
        }

        /** Whether no other one of the name was found. */
        private boolean unlike(int found, int pos) {
            if (found >= 0) {
                broken(pos);
            }
            return found < 0;
        }

        private void members(int item, int d) {
            if (d >= types.decls) {
                return;
            }
            if (tree.kind[item] == W_CHOICE) {
                types.declFirst[d] = types.variants;
                for (int variant = tree.a[item]; variant != 0; variant = tree.next[variant]) {
                    withinLimit(types.declWidth[d], MOST_VARIANTS, tree.pos[variant]);
                    unlike(types.findVariant(d, tree.name[variant]), tree.pos[variant]);
                    variantTypes(variant);
                    types.declWidth[d] = types.variants - types.declFirst[d];
                }
                return;
            }
            types.declFirst[d] = types.members;
            for (int field = tree.a[item]; field != 0; field = tree.next[field]) {
                boolean kept = withinLimit(types.declWidth[d], MOST_FIELDS, tree.pos[field])
                    & unlike(types.findField(d, tree.name[field]), tree.pos[field]);
                int type = ownedType(tree.a[field]);
                types.addMember(tree.name[field], kept ? type : UNTYPED);
                types.declWidth[d] = types.members - types.declFirst[d];
            }
            if (tree.ref[item] == TOLD_RECORD && !beginsWithInt(d)) {
                broken(tree.pos[item]);
            }
        }

        private boolean beginsWithInt(int d) {
            return types.declWidth[d] > 0 && fits(types.memberType[types.declFirst[d]], INT);
        }

        private void variantTypes(int variant) {
            types.addVariant(tree.name[variant]);
            int v = types.variants - 1;
            for (int type = tree.a[variant]; type != 0; type = tree.next[type]) {
                boolean kept = withinLimit(types.variantWidth[v], MOST_VARIANT_TYPES, tree.pos[type]);
                int told = ownedType(type);
                types.addMember(0, kept ? told : UNTYPED);
                types.variantWidth[v] = types.members - types.variantFirst[v];
            }
        }

        private void measures(int items) {
            int d = 0;
            for (int item = items; item != 0; item = tree.next[item]) {
                if (tree.kind[item] == W_FN || d >= types.decls) {
                    continue;
                }
                int cells = types.declCells[d];
                if (cells < 0 || cells > MOST_CELLS || types.declParts[d] > MOST_PARTS) {
                    broken(tree.pos[item]);
                }
                d++;
            }
        }

        private void signature(int f) {
            int node = functions.node[f];
            functions.firstParam[f] = functions.paramTotal;
            for (int param = tree.a[node]; param != 0; param = tree.next[param]) {
                boolean kept = withinLimit(functions.params[f], MOST_PARAMS, tree.pos[param]);
                if (earlier(tree.a[node], param)) {
                    broken(tree.pos[param]);
                    kept = false;
                }
                int type = typeIn(tree.a[param]);
                functions.addParam(f, kept ? type : UNTYPED);
            }
            int result = tree.b[node];
            if (result == 0) {
                return;
            }
            functions.result[f] = typeIn(result);
            int of = tree.next[result];
            if (of != 0) {
                lenders(f, of);
            }
        }

        /** Whether a node of a list has the name of one that stands ahead of it. */
        private boolean earlier(int list, int node) {
            for (int other = list; other != 0 && other != node; other = tree.next[other]) {
                if (tree.name[other] == tree.name[node]) {
                    return true;
                }
            }
            return false;
        }

        private void lenders(int f, int of) {
            int result = functions.result[f];
            if (result != UNTYPED && !types.isReference(result)) {
                broken(tree.pos[of]);
            }
            for (int name = tree.a[of]; name != 0; name = tree.next[name]) {
                int i = paramNamed(f, tree.name[name]);
                int type = i < 0 ? UNTYPED : functions.paramType[functions.firstParam[f] + i];
                boolean lends = type == UNTYPED || types.kind[type] == SOLE
                    || types.kind[type] == SHARED && types.kind[result] != SOLE;
                if (i < 0 || !lends) {
                    broken(tree.pos[name]);
                } else if (i < MOST_PARAMS) {
                    functions.of[f] |= 1L << i;
                }
            }
        }

        private int paramNamed(int f, int name) {
            int i = 0;
            for (int param = tree.a[functions.node[f]]; param != 0; param = tree.next[param]) {
                if (tree.name[param] == name) {
                    return i < functions.params[f] ? i : NONE;
                }
                i++;
            }
            return NONE;
        }

        private void mainFunction(int length) {
            for (int i = 0; i < functions.total; i++) {
                int node = functions.node[i];
                if (tree.name[node] == MAIN_NAME && tree.a[node] == 0 && tree.b[node] == 0) {
                    functions.main = i;
                    return;
                }
            }
            broken(length);
        }

        // ---- types

        /** The type that a node tells; & and &! among them. */
        private int typeIn(int node) {
            switch (tree.kind[node]) {
                case W_INT:
                    return INT;
                case W_BOOL:
                    return BOOL;
                case NAME:
                    int d = types.findDecl(tree.name[node]);
                    if (d < 0) {
                        broken(tree.pos[node]);
                        return UNTYPED;
                    }
                    return types.typeOf(NAMED, d);
                case W_BOX:
                    return types.typeOf(BOX, ownedType(tree.a[node]));
                case W_ROW:
                    return types.typeOf(ROW, ownedType(tree.a[node]));
                case '&':
                    return types.typeOf(SHARED, ownedType(tree.a[node]));
                default:
                    return types.typeOf(SOLE, ownedType(tree.a[node]));
            }
        }

        /** The type that a node tells where no & and &! may stand. */
        private int ownedType(int node) {
            int type = typeIn(node);
            if (tree.kind[node] == '&' || tree.kind[node] == SOLE_SIGN) {
                broken(tree.pos[node]);
                return UNTYPED;
            }
            return type;
        }

        /** Whether a rule that asks for a type is kept; what has no type breaks none. */
        private static boolean fits(int type, int due) {
            return type == UNTYPED || due == UNTYPED || type == due;
        }

        // ---- functions and their variables

        private void body(int f) {
            int node = functions.node[f];
            fn = f;
            top = NONE;
            whiles = 0;
            functions.firstVariable[f] = variables.total;
            functions.firstLoan[f] = places.loans;
            int i = functions.firstParam[f];
            for (int param = tree.a[node]; param != 0 && i < functions.paramTotal; param = tree.next[param]) {
                tree.ref[param] = addVariable(param, functions.paramType[i]);
                i++;
            }
            boolean goesOn = block(tree.c[node]);
            if (goesOn && tree.b[node] != 0) {
                broken(tree.pos[tree.c[node]]);
            }
        }

        private int addVariable(int node, int type) {
            withinLimit(functions.variables[fn], MOST_VARIABLES, tree.pos[node]);
            functions.variables[fn]++;
            int leaves = types.leavesOf(type);
            functions.leaves[fn] = Math.min(functions.leaves[fn] + leaves, MANY);
            if (leaves > 0 && functions.leaves[fn] > MOST_LEAVES) {
                broken(tree.pos[node]);
            }
            top = variables.add(tree.name[node], tree.pos[node], type, top);
            return top;
        }

        // ---- statements: whether what is behind them can be come to

        private boolean block(int node) {
            int outer = top;
            boolean goesOn = true;
            for (int s = tree.a[node]; s != 0; s = tree.next[s]) {
                goesOn &= statement(s);
            }
            top = outer;
            return goesOn;
        }

        private boolean statement(int node) {
            switch (tree.kind[node]) {
                case W_IF:
                    return choose(node);
                case W_MATCH:
                    return match(node);
                case W_WHILE:
                    due(tree.b[node], BOOL);
                    whiles++;
                    block(tree.a[node]);
                    whiles--;
                    return true;
                case W_BREAK:
                case W_CONTINUE:
                    if (whiles == 0) {
                        broken(tree.pos[node]);
                    }
                    return false;
                case W_RETURN:
                    returned(node);
                    return false;
                case W_FAIL:
                    return false;
                default:
                    plain(node);
                    return true;
            }
        }

        private void plain(int node) {
            switch (tree.kind[node]) {
                case W_LET:
                    let(node);
                    break;
                case ASSIGN:
                    int given = typeOfPlace(tree.a[node], ACT_GIVE);
                    due(tree.b[node], given);
                    break;
                case W_PUSH:
                    int row = rowPlace(tree.a[node], ACT_CHANGE);
                    due(tree.b[node], row == UNTYPED ? UNTYPED : types.arg[row]);
                    break;
                case W_PRINT:
                    int printed = exp(tree.b[node]);
                    if (printed != UNTYPED && printed != INT && printed != BOOL) {
                        broken(tree.from[tree.b[node]]);
                    }
                    break;
                default:
                    if (tree.kind[tree.b[node]] == CALL) {
                        tree.type[tree.b[node]] = call(tree.b[node], false);
                    } else {
                        exp(tree.b[node]);
                    }
                    break;
            }
        }

        private void let(int node) {
            int told = tree.a[node] == 0 ? UNTYPED : typeIn(tree.a[node]);
            int found = tree.b[node] == 0 ? UNTYPED : exp(tree.b[node]);
            if (tree.a[node] == 0 && tree.b[node] == 0 || !fits(found, told)) {
                broken(tree.pos[node]);
            }
            tree.ref[node] = addVariable(node, tree.a[node] == 0 ? found : told);
        }

        private boolean choose(int node) {
            due(tree.b[node], BOOL);
            boolean goesOn = block(tree.a[node]);
            int other = tree.c[node];
            if (other == 0) {
                return true;
            }
            boolean otherGoesOn = tree.kind[other] == W_IF ? choose(other) : block(other);
            return goesOn || otherGoesOn;
        }

        private void returned(int node) {
            int result = functions.result[fn];
            boolean hasResult = tree.b[functions.node[fn]] != 0;
            boolean hasExp = tree.b[node] != 0;
            int type = hasExp ? exp(tree.b[node]) : UNTYPED;
            if (hasResult != hasExp || !fits(type, result)) {
                broken(tree.pos[node]);
            }
        }

        private boolean match(int node) {
            int type = exp(tree.b[node]);
            int decl = types.meantDecl(type);
            int choice = decl >= 0 && types.declForm[decl] == CHOICE ? decl : NONE;
            if (type != UNTYPED && choice < 0) {
                broken(tree.from[tree.b[node]]);
            }
            boolean goesOn = false;
            boolean rest = false;
            for (int arm = tree.a[node]; arm != 0; arm = tree.next[arm]) {
                if (rest || earlier(tree.a[node], arm)) {
                    broken(tree.pos[arm]);
                }
                rest |= tree.name[arm] == 0;
                goesOn |= arm(arm, type, choice);
            }
            if (!rest && lacks(choice, tree.a[node])) {
                broken(tree.pos[node]);
            }
            return goesOn;
        }

        private boolean lacks(int choice, int arms) {
            if (choice < 0) {
                return false;
            }
            for (int v = types.declFirst[choice]; v < types.declFirst[choice] + types.declWidth[choice]; v++) {
                boolean told = false;
                for (int arm = arms; arm != 0; arm = tree.next[arm]) {
                    told |= tree.name[arm] == types.variantName[v];
                }
                if (!told) {
                    return true;
                }
            }
            return false;
        }

        private boolean arm(int node, int type, int choice) {
            int v = choice < 0 || tree.name[node] == 0 ? NONE : types.findVariant(choice, tree.name[node]);
            tree.ref[node] = v;
            if (choice >= 0 && tree.name[node] != 0 && (v < 0 || length(tree.a[node]) != types.variantWidth[v])) {
                broken(tree.pos[node]);
            }
            int outer = top;
            int i = 0;
            for (int bind = tree.a[node]; bind != 0; bind = tree.next[bind]) {
                tree.ref[bind] = NONE;
                if (tree.name[bind] != 0) {
                    if (earlier(tree.a[node], bind)) {
                        broken(tree.pos[bind]);
                    }
                    int part = v < 0 || i >= types.variantWidth[v] ? UNTYPED : types.memberType[types.variantFirst[v] + i];
                    tree.ref[bind] = addVariable(bind, types.isReference(type) ? types.typeOf(types.kind[type], part) : part);
                }
                i++;
            }
            boolean goesOn = block(tree.b[node]);
            top = outer;
            return goesOn;
        }

        private int length(int list) {
            int length = 0;
            for (int node = list; node != 0; node = tree.next[node]) {
                length++;
            }
            return length;
        }

        // ---- exps

        /** An exp that must be of a type, which is told at its first token. */
        private boolean due(int node, int type) {
            int found = exp(node);
            if (!fits(found, type)) {
                broken(tree.from[node]);
                return false;
            }
            return found != UNTYPED;
        }

        private int exp(int node) {
            int type = tree.kind[node] == CHAIN ? chain(node) : typeOfExp(node);
            tree.type[node] = type;
            return type;
        }

        private int typeOfExp(int node) {
            switch (tree.kind[node]) {
                case NUMBER:
                case W_READ:
                    return INT;
                case W_TRUE:
                case W_FALSE:
                    return BOOL;
                case NAME:
                    return typeOfPlace(node, ACT_OF_VALUE);
                case '&':
                case SOLE_SIGN:
                    return lent(node);
                case W_NEW:
                    return newRecord(node);
                case NEW_VARIANT:
                    return newVariant(node);
                case W_BOX:
                case W_OPEN:
                    return boxed(node);
                case W_ROW:
                    return rowOf(node);
                case W_LEN:
                    return rowPlace(tree.a[node], ACT_READ) == UNTYPED ? UNTYPED : INT;
                case W_POP:
                    return types.arg[rowPlace(tree.a[node], ACT_CHANGE)];
                case W_SWAP:
                    return swapped(node);
                case CALL:
                    return call(node, true);
                default:
                    return ahead(node);
            }
        }

        private int ahead(int node) {
            int due = tree.kind[node] == W_NOT ? BOOL : INT;
            int found = exp(tree.b[node]);
            if (!fits(found, due)) {
                broken(tree.pos[node]);
            }
            return found == due ? due : UNTYPED;
        }

        private int chain(int node) {
            int type = exp(tree.c[node]);
            for (int link = node; link != 0; link = tree.b[link]) {
                type = operation(link, type, exp(tree.a[link]));
            }
            return type;
        }

        private int operation(int link, int left, int right) {
            int sign = tree.ref[link];
            boolean both;
            int result = BOOL;
            if (sign == EQUAL || sign == UNEQUAL) {
                both = left <= BOOL && right <= BOOL && fits(left, right);
            } else {
                int due = sign == W_AND || sign == W_OR ? BOOL : INT;
                both = fits(left, due) && fits(right, due);
                boolean tells = due == BOOL || sign == '<' || sign == '>' || sign == AT_MOST || sign == AT_LEAST;
                result = tells ? BOOL : INT;
            }
            if (!both) {
                broken(tree.pos[link]);
            }
            return both && left != UNTYPED && right != UNTYPED ? result : UNTYPED;
        }

        private int lent(int node) {
            int place = tree.a[node];
            int v = variables.find(tree.name[place], top);
            int step = tree.a[place];
            boolean shares = v >= 0 && types.kind[variables.type[v]] == SHARED && step != 0 && tree.kind[step] == '^';
            boolean kept = shares || withinLimit(functions.loans[fn], MOST_LOANS, tree.pos[node]);
            tree.ref[node] = shares ? NONE : addLoan(node, v);
            int type = typeOfPlace(place, tree.kind[node] == '&' ? ACT_LEND : ACT_SOLE);
            if (types.isReference(type)) {
                broken(tree.pos[node]);
                kept = false;
            }
            return kept ? types.typeOf(tree.kind[node] == '&' ? SHARED : SOLE, type) : UNTYPED;
        }

        /** The LOAN is of the place that is numbered next. */
        private int addLoan(int node, int v) {
            if (v >= 0 && functions.loans[fn] < MOST_LOANS) {
                variables.loans[v] |= 1L << functions.loans[fn];
            }
            functions.loans[fn]++;
            return places.addLoan(tree.pos[node], places.total);
        }

        private int newRecord(int node) {
            int d = types.findDecl(tree.name[node]);
            if (d < 0 || types.declForm[d] == CHOICE) {
                broken(tree.pos[node]);
                d = NONE;
            }
            boolean whole = d >= 0;
            int told = 0;
            for (int init = tree.a[node]; init != 0; init = tree.next[init]) {
                int found = exp(tree.b[init]);
                int m = d < 0 ? NONE : types.findField(d, tree.name[init]);
                boolean again = earlier(tree.a[node], init);
                tree.ref[init] = m;
                if (again || d >= 0 && (m < 0 || !fits(found, types.memberType[m]))) {
                    broken(tree.pos[init]);
                    whole = false;
                }
                whole &= found != UNTYPED;
                told += m >= 0 && !again ? 1 : 0;
            }
            if (d >= 0 && told < distinctFields(d)) {
                broken(tree.pos[node]);
                whole = false;
            }
            return whole ? types.typeOf(NAMED, d) : UNTYPED;
        }

        private int distinctFields(int d) {
            int fields = 0;
            for (int m = types.declFirst[d]; m < types.declFirst[d] + types.declWidth[d]; m++) {
                fields += types.findField(d, types.memberName[m]) == m ? 1 : 0;
            }
            return fields;
        }

        private int newVariant(int node) {
            int d = types.findDecl(tree.name[node]);
            int v = NONE;
            if (d < 0 || types.declForm[d] != CHOICE) {
                broken(tree.pos[node]);
            } else {
                v = types.findVariant(d, tree.name[tree.b[node]]);
                if (v < 0 || types.variantWidth[v] != length(tree.a[node])) {
                    broken(tree.pos[tree.b[node]]);
                }
            }
            tree.ref[node] = v;
            boolean whole = v >= 0 && types.variantWidth[v] == length(tree.a[node]);
            int i = 0;
            for (int part = tree.a[node]; part != 0; part = tree.next[part]) {
                boolean counted = v >= 0 && i < types.variantWidth[v];
                whole &= due(part, counted ? types.memberType[types.variantFirst[v] + i] : UNTYPED);
                i++;
            }
            return whole ? types.typeOf(NAMED, d) : UNTYPED;
        }

        private int boxed(int node) {
            int type = exp(tree.b[node]);
            boolean opens = tree.kind[node] == W_OPEN;
            boolean right = opens ? types.kind[type] == BOX : !types.isReference(type);
            if (type != UNTYPED && !right) {
                broken(tree.from[tree.b[node]]);
                return UNTYPED;
            }
            return opens && type != UNTYPED ? types.arg[type] : types.typeOf(BOX, type);
        }

        private int rowOf(int node) {
            int type = ownedType(tree.b[node]);
            boolean whole = true;
            int i = 0;
            for (int element = tree.a[node]; element != 0; element = tree.next[element]) {
                whole &= withinLimit(i, MOST_ELEMENTS, tree.from[element]);
                whole &= due(element, type);
                i++;
            }
            return whole ? types.typeOf(ROW, type) : UNTYPED;
        }

        private int rowPlace(int place, int act) {
            int type = typeOfPlace(place, act);
            if (type != UNTYPED && types.kind[type] != ROW) {
                broken(tree.pos[place]);
                return UNTYPED;
            }
            return type;
        }

        private int swapped(int node) {
            int type = typeOfPlace(tree.a[node], ACT_CHANGE);
            boolean reference = types.isReference(type);
            if (reference) {
                broken(tree.pos[node]);
            }
            boolean whole = due(tree.b[node], type);
            return whole && !reference ? type : UNTYPED;
        }

        private int call(int node, boolean valued) {
            int f = functions.find(tree.name[node]);
            int params = f < 0 ? 0 : functions.params[f];
            boolean results = f >= 0 && tree.b[functions.node[f]] != 0;
            tree.ref[node] = f;
            boolean whole = f >= 0 && params == length(tree.a[node]) && (results || !valued);
            if (!whole) {
                broken(tree.pos[node]);
            }
            int i = 0;
            for (int argument = tree.a[node]; argument != 0; argument = tree.next[argument]) {
                whole &= due(argument, i < params ? functions.paramType[functions.firstParam[f] + i] : UNTYPED);
                i++;
            }
            return whole ? functions.result[f] : UNTYPED;
        }

        // ---- places

        /** The type of a place that is to bear an act, or whose value is to be read or moved. */
        private int typeOfPlace(int node, int act) {
            int v = variables.find(tree.name[node], top);
            int number = places.add(tree.pos[node], fn, v);
            tree.ref[node] = number;
            if (v < 0 || number < 0) {
                broken(tree.pos[node]);
            }
            int type = typeBehind(node, v < 0 || number < 0 ? UNTYPED : variables.type[v]);
            int done = act;
            if (act == ACT_OF_VALUE) {
                done = types.isCopied(type) ? ACT_READ : ACT_MOVE;
            }
            // What act the value of a place that has no type would bear is not known.
            boolean known = type != UNTYPED || act != ACT_OF_VALUE;
            boolean kept = !shared || done == ACT_READ || done == ACT_LEND;
            if (known && (!kept || done == ACT_MOVE && !movable)) {
                broken(tree.pos[node]);
                type = UNTYPED;
            }
            if (number >= 0) {
                places.act[number] = done;
                places.type[number] = type;
            }
            return type;
        }

        private int typeBehind(int node, int first) {
            int type = first;
            boolean shares = false;
            boolean moves = true;
            for (int step = tree.a[node]; step != 0; step = tree.next[step]) {
                if (tree.kind[step] == '.') {
                    moves &= !types.isTold(type);
                    type = typeOfField(step, type);
                } else {
                    moves = false;
                    shares |= tree.kind[step] == '^' && types.kind[type] == SHARED;
                    type = tree.kind[step] == '^' ? typeBehindArrow(step, type) : typeOfElement(step, type);
                }
            }
            shared = shares;
            movable = moves;
            return type;
        }

        private int typeOfField(int step, int type) {
            if (type == UNTYPED) {
                return UNTYPED;
            }
            if (!types.isRecord(type)) {
                broken(tree.pos[step]);
                return UNTYPED;
            }
            int m = types.findField(types.arg[type], tree.name[step]);
            if (m < 0) {
                broken(tree.from[step]);
                return UNTYPED;
            }
            tree.ref[step] = m;
            return types.memberType[m];
        }

        private int typeBehindArrow(int step, int type) {
            if (types.kind[type] == BOX || types.isReference(type)) {
                tree.ref[step] = types.kind[type] == BOX ? STEP_BOX : STEP_REFERENCE;
                return types.arg[type];
            }
            if (type != UNTYPED) {
                broken(tree.pos[step]);
            }
            return UNTYPED;
        }

        private int typeOfElement(int step, int type) {
            boolean whole = due(tree.b[step], INT);
            if (type != UNTYPED && types.kind[type] != ROW) {
                broken(tree.pos[step]);
                return UNTYPED;
            }
            return whole ? types.arg[type] : UNTYPED;
        }
    }

    /** Writes the code of a text that keeps the RULES, in the order in which it runs. */
    private static final class Emitter {
        private final Tree tree;
        private Program program;
        private Types types;
        private Functions functions;
        private Variables variables;
        private Places places;
        private int top;
        // Of the while that is open: its turns' slot, its breaks (each one's x leads to the one ahead), what is outside.
        private int loopStart;
        private int loopBreaks;
        private int loopOuter;

        private Emitter(Tree tree) {
            this.tree = tree;
        }

        private void emitAll(Program into) {
            program = into;
            types = into.types;
            functions = into.functions;
            variables = into.variables;
            places = into.places;
            for (int f = 0; f < functions.total; f++) {
                layOut(f);
                functions.entry[f] = program.slots;
                int node = functions.node[f];
                int body = tree.c[node];
                top = NONE;
                for (int param = tree.a[node]; param != 0; param = tree.next[param]) {
                    top = tree.ref[param];
                }
                block(body);
                ends(NONE, tree.pos[body]);
                emit(OP_RETURN, 0, 0, 0, tree.pos[body]);
            }
            labelAll();
        }

        private void layOut(int f) {
            functions.firstLeaf[f] = variables.leaves;
            int cell = 0;
            for (int v = functions.firstVariable[f]; v < functions.firstVariable[f] + functions.variables[f]; v++) {
                variables.cell[v] = cell;
                variables.firstLeaf[v] = variables.leaves;
                addLeaves(variables.type[v], cell, MOST_PARTS);
                variables.leafCount[v] = variables.leaves - variables.firstLeaf[v];
                cell += types.cellsOf(variables.type[v]);
            }
            functions.cells[f] = cell;
        }

        private void addLeaves(int type, int cell, int depth) {
            if (!types.isOpened(type) || depth == 0) {
                variables.addLeaf(type, cell);
                return;
            }
            int d = types.arg[type];
            for (int m = types.declFirst[d]; m < types.declFirst[d] + types.declWidth[d]; m++) {
                addLeaves(types.memberType[m], cell + types.memberCell[m], depth - 1);
            }
        }

        private int emit(int op, int x, int y, int z, int pos) {
            return program.add(op, x, y, z, pos);
        }

        /** The variables that came into scope behind an outer one END. */
        private void ends(int outer, int pos) {
            if (top != outer) {
                emit(OP_ENDS, top, outer, 0, pos);
            }
        }

        private void labelAll() {
            for (int at = 0; at < program.slots; at++) {
                int slot = program.leap(at);
                if (slot >= 0 && slot < program.slots && program.label[slot] < 0) {
                    program.label[slot] = program.labels;
                    program.labels++;
                }
            }
        }

        /** Jumps that wait for their end, each one's x leading to the one ahead, lead to the next slot now. */
        private void land(int last) {
            int slot = last;
            for (int turn = 0; turn < SLOTS && slot >= 0; turn++) {
                int earlier = program.x[slot];
                program.x[slot] = program.slots;
                slot = earlier;
            }
        }

        // ---- statements

        private void block(int node) {
            int outer = top;
            for (int s = tree.a[node]; s != 0; s = tree.next[s]) {
                emit(OP_STEP, 0, 0, 0, tree.pos[s]);
                statement(s);
            }
            ends(outer, tree.pos[node]);
            top = outer;
        }

        private void statement(int node) {
            switch (tree.kind[node]) {
                case W_IF:
                    choose(node);
                    break;
                case W_WHILE:
                    whileStatement(node);
                    break;
                case W_MATCH:
                    match(node);
                    break;
                case W_BREAK:
                    ends(loopOuter, tree.pos[node]);
                    loopBreaks = emit(OP_JUMP, loopBreaks, 0, 0, tree.pos[node]);
                    break;
                case W_CONTINUE:
                    ends(loopOuter, tree.pos[node]);
                    emit(OP_JUMP, loopStart, 0, 0, tree.pos[node]);
                    break;
                case W_RETURN:
                    if (tree.b[node] != 0) {
                        exp(tree.b[node]);
                    }
                    ends(NONE, tree.pos[node]);
                    emit(OP_RETURN, tree.b[node] == 0 ? 0 : 1, 0, 0, tree.pos[node]);
                    break;
                case W_FAIL:
                    emit(OP_FAIL, 0, 0, 0, tree.pos[node]);
                    break;
                default:
                    plain(node);
                    break;
            }
        }

        private void plain(int node) {
            if (tree.b[node] != 0) {
                exp(tree.b[node]);
            }
            switch (tree.kind[node]) {
                case W_LET:
                    top = tree.ref[node];
                    emit(tree.b[node] == 0 ? OP_LET_BARE : OP_LET, top, 0, 0, tree.pos[node]);
                    break;
                case ASSIGN:
                    act(OP_GIVE, tree.a[node], 0, NONE, tree.pos[node]);
                    break;
                case W_PUSH:
                    act(OP_PUSH, tree.a[node], 0, NONE, tree.pos[node]);
                    break;
                case W_PRINT:
                    emit(OP_PRINT, 0, 0, 0, tree.pos[node]);
                    break;
                default:
                    int done = tree.b[node];
                    if (tree.kind[done] != CALL || functions.result[tree.ref[done]] != UNTYPED) {
                        emit(OP_DROP, 0, 0, 0, tree.pos[node]);
                    }
                    break;
            }
        }

        private void choose(int node) {
            exp(tree.b[node]);
            int skip = emit(OP_UNLESS, NONE, 0, 0, tree.pos[node]);
            block(tree.a[node]);
            int other = tree.c[node];
            int over = NONE;
            if (other != 0) {
                over = emit(OP_JUMP, NONE, 0, 0, tree.pos[node]);
            }
            land(skip);
            if (other != 0) {
                if (tree.kind[other] == W_IF) {
                    choose(other);
                } else {
                    block(other);
                }
                land(over);
            }
        }

        private void whileStatement(int node) {
            int start = loopStart;
            int breaks = loopBreaks;
            int outer = loopOuter;
            loopStart = program.slots;
            loopBreaks = NONE;
            loopOuter = top;
            emit(OP_STEP, 0, 0, 0, tree.pos[node]);
            exp(tree.b[node]);
            loopBreaks = emit(OP_UNLESS, loopBreaks, 0, 0, tree.pos[node]);
            block(tree.a[node]);
            emit(OP_JUMP, loopStart, 0, 0, tree.pos[node]);
            land(loopBreaks);
            loopStart = start;
            loopBreaks = breaks;
            loopOuter = outer;
        }

        private void match(int node) {
            exp(tree.b[node]);
            int type = tree.type[tree.b[node]];
            int number = program.matches;
            program.matches++;
            emit(OP_MATCH, 0, number, 0, tree.pos[node]);
            int over = NONE;
            for (int arm = tree.a[node]; arm != 0; arm = tree.next[arm]) {
                boolean last = tree.next[arm] == 0 || tree.name[arm] == 0;
                int tag = tree.ref[arm] < 0 ? 0 : tree.ref[arm] - types.declFirst[types.meantDecl(type)];
                int skip = emit(OP_CASE, NONE, number, tag, tree.pos[arm]);
                int outer = top;
                parts(arm, !types.isReference(type));
                block(tree.b[arm]);
                // The binds END behind what the block itself has let.
                ends(outer, tree.pos[tree.b[arm]]);
                top = outer;
                if (!last) {
                    over = emit(OP_JUMP, over, 0, 0, tree.pos[arm]);
                    land(skip);
                }
            }
            land(over);
        }

        /** What an arm does with the parts of what is matched. */
        private void parts(int arm, boolean owned) {
            if (tree.name[arm] == 0) {
                emit(OP_DROP, 0, 0, 0, tree.pos[arm]);
                return;
            }
            int m = types.variantFirst[tree.ref[arm]];
            for (int bind = tree.a[arm]; bind != 0; bind = tree.next[bind]) {
                if (tree.ref[bind] >= 0) {
                    top = tree.ref[bind];
                    emit(OP_BIND, top, types.memberCell[m], 0, tree.pos[bind]);
                } else if (owned) {
                    emit(OP_UNBOUND, 0, types.memberCell[m], types.memberType[m], tree.pos[bind]);
                }
                m++;
            }
            emit(OP_MATCHED, 0, 0, 0, tree.pos[arm]);
        }

        // ---- exps

        private void exp(int node) {
            if (tree.kind[node] == CHAIN) {
                chain(node);
                return;
            }
            int type = tree.type[node];
            int pos = tree.pos[node];
            switch (tree.kind[node]) {
                case NUMBER:
                    emit(OP_NUMBER, (int) (tree.value[node] >> 32), (int) tree.value[node], INT, pos);
                    break;
                case W_TRUE:
                case W_FALSE:
                    emit(OP_NUMBER, 0, tree.kind[node] == W_TRUE ? 1 : 0, BOOL, pos);
                    break;
                case W_READ:
                    emit(OP_INPUT, 0, 0, 0, pos);
                    break;
                case NAME:
                    act(types.isCopied(type) ? OP_READ : OP_MOVE, node, type, NONE, pos);
                    break;
                case '&':
                    act(OP_LEND, tree.a[node], type, tree.ref[node], pos);
                    break;
                case SOLE_SIGN:
                    act(OP_SOLE, tree.a[node], type, tree.ref[node], pos);
                    break;
                case W_LEN:
                    act(OP_LEN, tree.a[node], type, NONE, pos);
                    break;
                case W_POP:
                    act(OP_POP, tree.a[node], type, NONE, pos);
                    break;
                case W_SWAP:
                    exp(tree.b[node]);
                    act(OP_SWAP, tree.a[node], type, NONE, pos);
                    break;
                default:
                    composed(node, type, pos);
                    break;
            }
        }

        private void composed(int node, int type, int pos) {
            int parts = 0;
            if (tree.kind[node] == W_NEW) {
                newRecord(node, type, pos);
                return;
            }
            for (int part = tree.a[node]; part != 0; part = tree.next[part]) {
                exp(part);
                parts++;
            }
            switch (tree.kind[node]) {
                case NEW_VARIANT:
                    emit(OP_VARIANT, type, tree.ref[node], parts, pos);
                    break;
                case W_ROW:
                    emit(OP_ROW, type, 0, parts, pos);
                    break;
                case CALL:
                    emit(OP_CALL, tree.ref[node], 0, parts, pos);
                    break;
                default:
                    exp(tree.b[node]);
                    emit(unary(tree.kind[node]), type, 0, 1, pos);
                    break;
            }
        }

        private static int unary(int kind) {
            switch (kind) {
                case W_BOX:
                    return OP_BOX;
                case W_OPEN:
                    return OP_OPEN;
                case W_NOT:
                    return OP_NOT;
                default:
                    return OP_MINUS;
            }
        }

        private void newRecord(int node, int type, int pos) {
            int parts = 0;
            for (int init = tree.a[node]; init != 0; init = tree.next[init]) {
                exp(tree.b[init]);
                parts++;
            }
            // Behind all exps, as these can hold new records too.
            int order = program.orders;
            for (int init = tree.a[node]; init != 0; init = tree.next[init]) {
                program.addOrder(types.memberCell[tree.ref[init]]);
            }
            emit(OP_RECORD, type, order, parts, pos);
        }

        private void chain(int node) {
            exp(tree.c[node]);
            int ahead = NONE;
            for (int link = node; link != 0; link = tree.b[link]) {
                int sign = tree.ref[link];
                if (sign == W_AND || sign == W_OR) {
                    ahead = emit(sign == W_AND ? OP_AND : OP_OR, ahead, 0, 0, tree.pos[link]);
                    exp(tree.a[link]);
                } else {
                    exp(tree.a[link]);
                    emit(OP_CHAIN, sign, 0, 0, tree.pos[link]);
                }
            }
            land(ahead);
        }

        // ---- places

        /** The exps in a place's [ ], then its act. */
        private void act(int op, int node, int type, int loan, int pos) {
            int p = tree.ref[node];
            for (int step = tree.a[node]; step != 0; step = tree.next[step]) {
                if (tree.kind[step] == '[') {
                    exp(tree.b[step]);
                }
            }
            layPlace(p, node);
            emit(op, p, loan < 0 ? NONE : loan - functions.firstLoan[places.fn[p]], type, pos);
        }

        private void layPlace(int p, int node) {
            int v = places.variable[p];
            int type = variables.type[v];
            int leaf = variables.firstLeaf[v] - functions.firstLeaf[places.fn[p]];
            boolean further = false;
            places.firstStep[p] = places.stepTotal;
            for (int step = tree.a[node]; step != 0; step = tree.next[step]) {
                further |= !types.isOpened(type);
                if (tree.kind[step] == '.') {
                    int m = tree.ref[step];
                    leaf += further ? 0 : leavesAhead(types.arg[type], m);
                    places.addStep(STEP_FIELD, types.memberCell[m], tree.pos[step]);
                    type = types.memberType[m];
                } else {
                    places.addStep(tree.kind[step] == '^' ? tree.ref[step] : STEP_INDEX, 0, tree.pos[step]);
                    type = types.arg[type];
                }
            }
            places.steps[p] = places.stepTotal - places.firstStep[p];
            places.leaf[p] = leaf;
            places.leaves[p] = further ? 1 : types.leavesOf(type);
            places.further[p] = further;
            places.type[p] = type;
        }

        private int leavesAhead(int d, int m) {
            int leaves = 0;
            for (int field = types.declFirst[d]; field < m; field++) {
                leaves += types.leavesOf(types.memberType[field]);
            }
            return leaves;
        }
    }

    /** Follows all ways through the code of a text, and finds FAULTS 3 and 4. */
    private static final class Ways {
        // A state has two numbers of bits for LEAVES, held and not held on some way, then what each variable holds:
        // bit i LOAN i of the fn, the bits behind these its params.
        private static final int HELD = 0;
        private static final int UNHELD = 1;
        private static final int HOLDS = 2;
        private static final int WIDTH = HOLDS + MOST_VARIABLES;
        private static final int FIRST_LABELS = 48;

        private Program program;
        private Functions functions;
        private Variables variables;
        private Places places;
        private int fn;
        private int first;
        private final long[] state = new long[WIDTH];
        private boolean come;
        private long[] labelState = new long[FIRST_LABELS * WIDTH];
        private boolean[] labelCome = new boolean[FIRST_LABELS];
        private boolean changed;
        private long splits;
        // What the values hold that are worked out and not used yet, and the values of the matches.
        private final long[] temps = new long[TEMPS];
        private int depth;
        private final long[] matched = new long[MATCHES];
        private long matchHolds;
        // The variables (bits) that are used behind the point ahead of each slot, and whether a way comes to it.
        private final long[] used = new long[SLOTS];
        private final boolean[] met = new boolean[SLOTS];
        // FAULT 3: the slot of its act, its LEAF.
        private int straySlot;
        private int strayLeaf;
        private int clashPlace;
        private int clashOther;

        private int strayPlace() {
            return straySlot < 0 ? NONE : places.pos[program.x[straySlot]];
        }

        private int clashPlace() {
            return clashPlace == NO_PLACE ? NONE : clashPlace;
        }

        private int clashOther() {
            return clashOther;
        }

        private void follow(Program judged) {
            program = judged;
            functions = judged.functions;
            variables = judged.variables;
            places = judged.places;
            straySlot = NONE;
            clashPlace = NO_PLACE;
            clashOther = NONE;
            clearLabels();
            for (int f = 0; f < functions.total; f++) {
                fn = f;
                first = functions.firstVariable[f];
                findUsed();
                changed = true;
                for (int turn = 0; turn < MANY && changed; turn++) {
                    changed = false;
                    pass(false);
                }
                splits = 0;
                pass(true);
                functions.splits[f] = Long.bitCount(splits);
            }
        }

        private void clearLabels() {
            int room = labelCome.length;
            for (int turn = 0; turn < 8 && room < program.labels; turn++) {
                room *= 2;
            }
            if (room > labelCome.length) {
                labelCome = new boolean[room];
                labelState = new long[room * WIDTH];
            }
            for (int label = 0; label < program.labels && label < room; label++) {
                labelCome[label] = false;
            }
        }

        // ---- backwards: which variables are used behind a slot

        private void findUsed() {
            int entry = functions.entry[fn];
            int end = program.endOf(fn);
            for (int at = entry; at < end; at++) {
                used[at] = 0;
            }
            boolean more = true;
            for (int turn = 0; turn < MANY && more; turn++) {
                more = false;
                for (int at = end - 1; at >= entry; at--) {
                    long ahead = usedAhead(at, usedBehind(at));
                    more |= ahead != used[at];
                    used[at] = ahead;
                }
            }
        }

        private long usedBehind(int at) {
            long bits = program.goesOn(at) && at + 1 < program.slots ? used[at + 1] : 0;
            int leap = program.leap(at);
            return leap >= 0 && leap < program.slots ? bits | used[leap] : bits;
        }

        private long usedAhead(int at, long behind) {
            int op = program.op[at];
            if (op == OP_LET || op == OP_LET_BARE || op == OP_BIND) {
                return behind & ~bitOf(program.x[at]);
            }
            if (op > LAST_PLACE_OP) {
                return behind;
            }
            int p = program.x[at];
            long bit = bitOf(places.variable[p]);
            return op == OP_GIVE && places.steps[p] == 0 ? behind & ~bit : behind | bit;
        }

        private long bitOf(int variable) {
            return 1L << (variable - first);
        }

        // ---- forwards

        private void begin() {
            for (int i = 0; i < WIDTH; i++) {
                state[i] = 0;
            }
            come = true;
            depth = 0;
            for (int i = 0; i < functions.params[fn]; i++) {
                int v = first + i;
                giveLeaves(leafBits(v));
                if (program.types.isReference(variables.type[v])) {
                    state[HOLDS + i] = 1L << (MOST_LOANS + i);
                }
            }
        }

        /** Once through the code of the fn; what is found is told in the last pass alone. */
        private void pass(boolean last) {
            begin();
            int end = program.endOf(fn);
            for (int at = functions.entry[fn]; at < end; at++) {
                arrive(at);
                if (last) {
                    met[at] = come;
                    if (come) {
                        look(at);
                    }
                }
                if (come) {
                    move(at);
                }
            }
        }

        private void arrive(int at) {
            int label = program.label[at];
            if (label < 0 || label >= labelCome.length) {
                return;
            }
            if (come) {
                join(label);
            }
            if (labelCome[label]) {
                System.arraycopy(labelState, label * WIDTH, state, 0, WIDTH);
                come = true;
            }
        }

        /** Adds the state to a label's; whether that brought something. */
        private boolean join(int label) {
            boolean fresh = !labelCome[label];
            boolean brought = fresh;
            int base = label * WIDTH;
            for (int i = 0; i < WIDTH; i++) {
                long both = fresh ? state[i] : labelState[base + i] | state[i];
                brought |= both != labelState[base + i];
                labelState[base + i] = both;
            }
            labelCome[label] = true;
            return brought;
        }

        private void leap(int at) {
            int target = program.x[at];
            int label = target < 0 || target >= program.slots ? NONE : program.label[target];
            // What a leap forward brings is met in the same pass.
            if (label >= 0 && label < labelCome.length && join(label) && target <= at) {
                changed = true;
            }
        }

        private void push(long holds) {
            if (depth < TEMPS) {
                temps[depth] = holds;
                depth++;
            }
        }

        private long pull(int values) {
            depth = Math.max(0, depth - values);
            return depth < TEMPS ? temps[depth] : 0;
        }

        private void move(int at) {
            int op = program.op[at];
            int x = program.x[at];
            if (op <= LAST_PLACE_OP) {
                act(at, op, x);
                return;
            }
            switch (op) {
                case OP_NUMBER:
                case OP_INPUT:
                    push(0);
                    break;
                case OP_CHAIN:
                    pull(2);
                    push(0);
                    break;
                case OP_RECORD:
                case OP_VARIANT:
                case OP_ROW:
                    pull(program.z[at]);
                    push(0);
                    break;
                case OP_CALL:
                    call(x, program.z[at]);
                    break;
                case OP_PRINT:
                case OP_DROP:
                    pull(1);
                    break;
                case OP_LET:
                    giveLeaves(leafBits(x));
                    giveVariable(x, pull(1));
                    break;
                case OP_LET_BARE:
                    takeLeaves(leafBits(x));
                    giveVariable(x, 0);
                    break;
                case OP_BIND:
                    giveLeaves(leafBits(x));
                    giveVariable(x, matchHolds);
                    break;
                default:
                    turn(at, op);
                    break;
            }
        }

        private void turn(int at, int op) {
            switch (op) {
                case OP_JUMP:
                    leap(at);
                    come = false;
                    break;
                case OP_UNLESS:
                    pull(1);
                    leap(at);
                    break;
                case OP_AND:
                case OP_OR:
                    leap(at);
                    pull(1);
                    break;
                case OP_MATCH:
                    matched[program.y[at]] = pull(1);
                    break;
                case OP_CASE:
                    leap(at);
                    matchHolds = matched[program.y[at]];
                    break;
                case OP_RETURN:
                case OP_FAIL:
                    depth = 0;
                    come = false;
                    break;
                default:
                    break;
            }
        }

        private void act(int at, int op, int p) {
            pull(places.indices(p));
            int v = places.variable[p];
            long holds = state[HOLDS + v - first];
            boolean reference = program.types.isReference(variables.type[v]);
            switch (op) {
                case OP_READ:
                case OP_MOVE:
                    // Of a place behind a reference the value is none itself.
                    push(program.types.isReference(places.type[p]) ? holds : 0);
                    if (op == OP_MOVE) {
                        takeLeaves(places.leafBits(p));
                    }
                    break;
                case OP_LEND:
                case OP_SOLE:
                    long own = program.y[at] < 0 ? 0 : 1L << program.y[at];
                    push(reference ? own | holds : own);
                    break;
                case OP_GIVE:
                    long given = pull(1);
                    if (!places.further[p]) {
                        giveLeaves(places.leafBits(p));
                    }
                    if (places.steps[p] == 0) {
                        giveVariable(v, given);
                    }
                    break;
                case OP_PUSH:
                    pull(1);
                    break;
                case OP_SWAP:
                    pull(1);
                    push(0);
                    break;
                default:
                    push(0);
                    break;
            }
        }

        private void call(int f, int arguments) {
            long holds = 0;
            for (int i = 0; i < arguments; i++) {
                int temp = depth - arguments + i;
                if (temp >= 0 && (functions.of[f] >> i & 1) == 1) {
                    holds |= temps[temp];
                }
            }
            pull(arguments);
            int result = functions.result[f];
            if (result != UNTYPED) {
                push(program.types.isReference(result) ? holds : 0);
            }
        }

        private long leafBits(int v) {
            return variables.leafBits(v, functions.firstLeaf[fn]);
        }

        private void giveLeaves(long bits) {
            state[HELD] |= bits;
            state[UNHELD] &= ~bits;
        }

        private void takeLeaves(long bits) {
            state[UNHELD] |= bits;
            state[HELD] &= ~bits;
        }

        /** A variable is given: if it is a reference, the LOANS of places through its ^ go from all. */
        private void giveVariable(int v, long holds) {
            if (!program.types.isReference(variables.type[v])) {
                return;
            }
            state[HOLDS + v - first] = holds;
            long gone = variables.loans[v];
            for (int i = HOLDS; i < WIDTH; i++) {
                state[i] &= ~gone;
            }
            matchHolds &= ~gone;
        }

        // ---- what is found

        private void look(int at) {
            int op = program.op[at];
            if (op <= LAST_PLACE_OP) {
                int p = program.x[at];
                places.come[p] = true;
                lookForStray(at, op, p);
                places.force[p] = inForce(at, op, p);
                lookForClash(op, p);
            } else if (op == OP_ENDS) {
                lookAtEnds(at);
            } else if (op == OP_RETURN && program.x[at] == 1 && depth > 0) {
                lookAtResult(temps[depth - 1], program.pos[at]);
            }
        }

        private void lookForStray(int at, int op, int p) {
            long missing = state[UNHELD] & places.leafBits(p);
            boolean asks = op != OP_GIVE || places.further[p];
            if (asks && missing != 0 && (straySlot < 0 || places.pos[p] < strayPlace())) {
                straySlot = at;
                strayLeaf = Long.numberOfTrailingZeros(missing);
            }
        }

        /** The LOANS in force: what variables hold that are used behind, and values that the act does not use. */
        private long inForce(int at, int op, int p) {
            long behind = usedBehind(at);
            int waiting = depth;
            if (op == OP_GIVE) {
                waiting -= places.indices(p) + 1;
                behind &= places.steps[p] == 0 ? ~bitOf(places.variable[p]) : -1L;
            }
            return held(behind, waiting) & (1L << MOST_LOANS) - 1;
        }

        private long held(long behind, int waiting) {
            long holds = 0;
            for (int i = 0; i < functions.variables[fn]; i++) {
                if ((behind >> i & 1) == 1) {
                    holds |= state[HOLDS + i];
                }
            }
            for (int i = 0; i < waiting && i < TEMPS; i++) {
                holds |= temps[i];
            }
            return holds;
        }

        private void lookForClash(int op, int p) {
            boolean reads = op == OP_READ || op == OP_LEN || op == OP_LEND;
            boolean anew = op == OP_GIVE && places.steps[p] == 0 && program.types.isReference(places.type[p]);
            if (anew) {
                return;
            }
            long bits = places.force[p] & variables.loans[places.variable[p]];
            for (int i = 0; i < functions.loans[fn] && bits != 0; i++) {
                int loan = functions.firstLoan[fn] + i;
                boolean inForce = (bits >> i & 1) == 1;
                if (inForce && (!reads || program.isSole(loan)) && places.meet(places.loanPlace[loan], p)) {
                    clash(places.pos[p], places.loanPos[loan]);
                }
            }
        }

        private void clash(int place, int other) {
            if (place < clashPlace) {
                clashPlace = place;
                clashOther = other;
            } else if (place == clashPlace) {
                clashOther = Math.min(clashOther, other);
            }
        }

        private void lookAtEnds(int at) {
            long holds = held(usedBehind(at), depth);
            for (int v = program.x[at]; v >= 0 && v != program.y[at]; v = variables.outer[v]) {
                splits |= state[HELD] & state[UNHELD] & leafBits(v);
                if (!program.types.isReference(variables.type[v])) {
                    lookAtEnd(holds & variables.loans[v], program.pos[at]);
                }
            }
        }

        private void lookAtEnd(long loans, int pos) {
            if (loans != 0) {
                clash(pos, places.loanPos[functions.firstLoan[fn] + Long.numberOfTrailingZeros(loans)]);
            }
        }

        private void lookAtResult(long holds, int pos) {
            for (int i = 0; i < functions.params[fn]; i++) {
                boolean strange = (holds >> (MOST_LOANS + i) & 1) == 1 && (functions.of[fn] >> i & 1) == 0;
                // At one place a LOAN is told ahead of a param.
                if (strange && pos < clashPlace) {
                    clash(pos, variables.pos[first + i]);
                }
            }
        }

        // ---- the other place of FAULT 3

        private int strayOther() {
            if (straySlot < 0) {
                return NONE;
            }
            fn = places.fn[program.x[straySlot]];
            first = functions.firstVariable[fn];
            findLeading();
            int least = NO_PLACE;
            for (int at = functions.entry[fn]; at < program.endOf(fn); at++) {
                if (met[at] && takesLeaf(at) && usedBehind(at) != 0) {
                    int taken = program.op[at] == OP_MOVE ? places.pos[program.x[at]] : variables.pos[program.x[at]];
                    least = Math.min(least, taken);
                }
            }
            return least == NO_PLACE ? NONE : least;
        }

        /** From which slots a way leads to the stray act on which its LEAF is not given; told in used. */
        private void findLeading() {
            int entry = functions.entry[fn];
            int end = program.endOf(fn);
            for (int at = entry; at < end; at++) {
                used[at] = 0;
            }
            boolean more = true;
            for (int turn = 0; turn < MANY && more; turn++) {
                more = false;
                for (int at = end - 1; at >= entry; at--) {
                    long leads = givesLeaf(at) ? 0 : usedBehind(at);
                    leads = at == straySlot ? 1 : leads;
                    more |= leads != used[at];
                    used[at] = leads;
                }
            }
        }

        private boolean givesLeaf(int at) {
            int op = program.op[at];
            int x = program.x[at];
            long bits = 0;
            if (op == OP_LET || op == OP_BIND) {
                bits = leafBits(x);
            } else if (op == OP_GIVE && !places.further[x]) {
                bits = places.leafBits(x);
            }
            return (bits >> strayLeaf & 1) == 1;
        }

        private boolean takesLeaf(int at) {
            int op = program.op[at];
            int x = program.x[at];
            long bits = 0;
            if (op == OP_LET_BARE) {
                bits = leafBits(x);
            } else if (op == OP_MOVE) {
                bits = places.leafBits(x);
            }
            return (bits >> strayLeaf & 1) == 1;
        }
    }

    /** The cells of a run: boxes, rows and what the open calls have, and what is told of them. */
    private static final class Store {
        private Types types;
        private long[] cells = new long[FIRST_CELLS];
        // How far the open calls reach.
        private int top;
        private final boolean[] boxUsed = new boolean[MOST_BOXES];
        private int boxes;
        private int mostBoxes;
        private final boolean[] rowUsed = new boolean[MOST_ROWS];
        private final int[] rowLength = new int[MOST_ROWS];
        private int rows;
        private int mostRows;
        private final int[] outKind = new int[MOST_OUT];
        private final long[] outNumber = new long[MOST_OUT];
        private int outs;
        private int made;
        private int told;
        private int strays;
        private int twices;
        // What waits to be dropped: values where they are, and (with a negative type) the elements of a row from one
        // on, told as the row's number times their most, and that one's.
        private final int[] dropType = new int[DROPS];
        private final int[] dropAt = new int[DROPS];

        private void clear(Types newTypes) {
            types = newTypes;
            top = CALLS_AT;
            boxes = 0;
            mostBoxes = 0;
            rows = 0;
            mostRows = 0;
            outs = 0;
            made = 0;
            told = 0;
            strays = 0;
            twices = 0;
            for (int box = 0; box < MOST_BOXES; box++) {
                boxUsed[box] = false;
            }
            for (int row = 0; row < MOST_ROWS; row++) {
                rowUsed[row] = false;
            }
        }

        /** Sees to it that so many more cells can be laid on top. */
        private void room(int more) {
            int length = cells.length;
            for (int turn = 0; turn < 8 && top + more > length && length < MOST_MEMORY; turn++) {
                length *= 2;
            }
            if (length > cells.length) {
                long[] larger = new long[length];
                System.arraycopy(cells, 0, larger, 0, top);
                cells = larger;
            }
        }

        private void pushNumber(long number, int type) {
            room(2);
            cells[top] = number;
            cells[top + 1] = type;
            top += 2;
        }

        /** Lays a copy of a value on top, its type behind it. */
        private void pushCells(int at, int type) {
            int width = types.cellsOf(type);
            room(width + 1);
            System.arraycopy(cells, at, cells, top, width);
            cells[top + width] = type;
            top += width + 1;
        }

        private int typeOnTop() {
            return (int) cells[top - 1];
        }

        /** Where the value on top begins. */
        private int topValue() {
            return top - 1 - types.cellsOf(typeOnTop());
        }

        private void tell(int kind, long number) {
            if (outs < MOST_OUT) {
                outKind[outs] = kind;
                outNumber[outs] = number;
                outs++;
            }
        }

        private long entry(int i, int what) {
            if (i < 0 || i >= outs || what < 0 || what > 1) {
                return 0;
            }
            return what == 0 ? outKind[i] : outNumber[i];
        }

        /** A free box, or NONE. */
        private int takeBox() {
            for (int box = 0; box < MOST_BOXES; box++) {
                if (!boxUsed[box]) {
                    boxUsed[box] = true;
                    boxes++;
                    mostBoxes = Math.max(mostBoxes, boxes);
                    return box;
                }
            }
            return NONE;
        }

        private int takeRow() {
            for (int row = 0; row < MOST_ROWS; row++) {
                if (!rowUsed[row]) {
                    rowUsed[row] = true;
                    rowLength[row] = 0;
                    rows++;
                    mostRows = Math.max(mostRows, rows);
                    return row;
                }
            }
            return NONE;
        }

        private void freeBox(int box) {
            boxUsed[box] = false;
            boxes--;
        }

        private boolean isBox(long box) {
            return box >= 0 && box < MOST_BOXES && boxUsed[(int) box];
        }

        private boolean isRow(long row) {
            return row >= 0 && row < MOST_ROWS && rowUsed[(int) row];
        }

        /** Where the cells of the box begin that a cell has. */
        private int boxAt(int cell) {
            long box = cells[cell];
            if (!isBox(box)) {
                strays++;
                return 0;
            }
            return (int) box * MOST_CELLS;
        }

        /** The row that a cell has. */
        private int rowAt(int cell) {
            long row = cells[cell];
            if (!isRow(row)) {
                strays++;
                return 0;
            }
            return (int) row;
        }

        /** Where the reference that a cell has leads. */
        private int meantAt(int cell) {
            long meant = cells[cell];
            if (meant < 0 || meant >= top || !isThere((int) meant)) {
                strays++;
                return 0;
            }
            return (int) meant;
        }

        private boolean isThere(int at) {
            if (at < ROWS_AT) {
                return boxUsed[at / MOST_CELLS];
            }
            if (at >= CALLS_AT) {
                return true;
            }
            int row = (at - ROWS_AT) / ROW_CELLS;
            return rowUsed[row] && (at - ROWS_AT) % ROW_CELLS / MOST_CELLS < rowLength[row];
        }

        private static int elementAt(int row, int i) {
            return ROWS_AT + row * ROW_CELLS + i * MOST_CELLS;
        }

        // ---- dropping

        private void drop(int type, int at) {
            int waiting = await(0, type, at);
            for (int turn = 0; turn < MANY && waiting > 0; turn++) {
                waiting--;
                int t = dropType[waiting];
                int where = dropAt[waiting];
                if (t < 0) {
                    waiting = dropElement(waiting, -t, where / ROW_SPAN, where % ROW_SPAN);
                } else if (types.kind[t] == NAMED) {
                    waiting = dropNamed(waiting, types.arg[t], where);
                } else if (types.kind[t] == BOX) {
                    waiting = dropBox(waiting, types.arg[t], cells[where]);
                } else if (types.kind[t] == ROW) {
                    waiting = dropRow(waiting, types.arg[t], cells[where]);
                }
            }
        }

        private int await(int waiting, int type, int at) {
            if (waiting >= DROPS) {
                return waiting;
            }
            dropType[waiting] = type;
            dropAt[waiting] = at;
            return waiting + 1;
        }

        private int dropElement(int waiting, int type, int row, int i) {
            if (i >= rowLength[row]) {
                return waiting;
            }
            int more = await(waiting, -type, row * ROW_SPAN + i + 1);
            return await(more, type, elementAt(row, i));
        }

        private int dropBox(int waiting, int type, long box) {
            if (!isBox(box)) {
                twices++;
                return waiting;
            }
            freeBox((int) box);
            return await(waiting, type, (int) box * MOST_CELLS);
        }

        private int dropRow(int waiting, int type, long row) {
            if (!isRow(row)) {
                twices++;
                return waiting;
            }
            rowUsed[(int) row] = false;
            rows--;
            return await(waiting, -type, (int) row * ROW_SPAN);
        }

        /** A told record tells; then its parts, a record's or a choice's, wait in order. */
        private int dropNamed(int waiting, int d, int at) {
            int first = types.declFirst[d];
            int width = types.declWidth[d];
            if (types.declForm[d] == TOLD_RECORD) {
                tell(1, cells[at]);
                told++;
            } else if (types.declForm[d] == CHOICE) {
                long tag = cells[at];
                if (tag < 0 || tag >= width) {
                    strays++;
                    return waiting;
                }
                int v = first + (int) tag;
                first = types.variantFirst[v];
                width = types.variantWidth[v];
            }
            int more = waiting;
            for (int m = first + width - 1; m >= first; m--) {
                more = await(more, types.memberType[m], at + types.memberCell[m]);
            }
            return more;
        }
    }

    /** Runs the code of a program. */
    private static final class Machine {
        private final Store store = new Store();
        private Program program;
        private Types types;
        private Functions functions;
        private Variables variables;
        private Places places;
        // Of the latest call: its fn, its first cell, the LEAVES that have a value, and the slot that is next.
        private int fn;
        private int base;
        private long held;
        private int next;
        // The same four of each call that waits for it.
        private final long[][] waiting = new long[MOST_CALLS][4];
        private int calls;
        private final long[] parts = new long[MOST_CELLS];
        private long[] given;
        private int givenTotal;
        private int reads;
        private int steps;
        private int mostSteps;
        private int ended;
        private int why;
        private int failedAt;

        private int start(Program newProgram, long[] newGiven, int newGivenTotal, int newMostSteps) {
            program = newProgram;
            types = newProgram.types;
            functions = newProgram.functions;
            variables = newProgram.variables;
            places = newProgram.places;
            given = newGiven;
            givenTotal = newGivenTotal;
            mostSteps = newMostSteps;
            reads = 0;
            steps = 0;
            ended = NONE;
            why = NONE;
            failedAt = NONE;
            store.clear(types);
            calls = 0;
            open(functions.main, CALLS_AT);
            for (long turn = 0; turn < MOST_SLOTS_RUN && ended < 0 && next < program.slots; turn++) {
                int at = next;
                int op = program.op[at];
                next++;
                if (op <= LAST_PLACE_OP) {
                    performAct(at, op, program.x[at]);
                } else if (op <= LAST_VALUE_OP) {
                    performValue(at, op);
                } else if (op <= LAST_VARIABLE_OP) {
                    performVariable(at, op);
                } else {
                    performWay(at, op);
                }
            }
            if (ended == FAILED) {
                unwind();
            }
            return ended;
        }

        private int tell(int what) {
            switch (what) {
                case 0:
                    return ended;
                case 1:
                    return failedAt;
                case 2:
                    return why;
                case 3:
                    return steps;
                case 4:
                    return store.outs;
                case 5:
                    return store.made;
                case 6:
                    return store.told;
                case 7:
                    return store.mostBoxes;
                case 8:
                    return store.mostRows;
                case 9:
                    return reads;
                default:
                    return NONE;
            }
        }

        private int left() {
            return ended == CUT ? 0 : store.made - store.told + store.boxes + store.rows;
        }

        private void open(int f, int newBase) {
            fn = f;
            base = newBase;
            next = functions.entry[f];
            calls++;
            int taken = newBase + functions.cells[f];
            store.room(Math.max(0, taken - store.top));
            store.top = taken;
            held = 0;
            for (int i = 0; i < functions.params[f]; i++) {
                held |= variables.leafBits(functions.firstVariable[f] + i, functions.firstLeaf[f]);
            }
        }

        private void fail(int reason, int pos) {
            ended = FAILED;
            why = reason;
            failedAt = pos;
        }

        // ---- acts of places

        private void performAct(int at, int op, int p) {
            int cell = resolve(p);
            if (cell < 0) {
                return;
            }
            if ((op != OP_GIVE || places.further[p]) && (held & places.leafBits(p)) != places.leafBits(p)) {
                store.strays++;
            }
            store.top -= 2 * places.indices(p);
            switch (op) {
                case OP_READ:
                    store.pushCells(cell, places.type[p]);
                    break;
                case OP_MOVE:
                    store.pushCells(cell, places.type[p]);
                    held &= ~places.leafBits(p);
                    break;
                case OP_LEND:
                case OP_SOLE:
                    store.pushNumber(cell, program.z[at]);
                    break;
                case OP_LEN:
                    store.pushNumber(store.rowLength[store.rowAt(cell)], INT);
                    break;
                case OP_GIVE:
                    giveTo(p, cell);
                    break;
                case OP_SWAP:
                    swapWith(cell);
                    break;
                default:
                    changeRow(at, op, store.rowAt(cell));
                    break;
            }
        }

        /** The first cell of a place whose indices lie on top; NONE if the run fails at one of them. */
        private int resolve(int p) {
            int cell = base + variables.cell[places.variable[p]];
            int index = store.top - 2 * places.indices(p);
            for (int s = places.firstStep[p]; s < places.firstStep[p] + places.steps[p]; s++) {
                switch (places.stepKind[s]) {
                    case STEP_FIELD:
                        cell += places.stepCell[s];
                        break;
                    case STEP_BOX:
                        cell = store.boxAt(cell);
                        break;
                    case STEP_REFERENCE:
                        cell = store.meantAt(cell);
                        break;
                    default:
                        int row = store.rowAt(cell);
                        long i = store.cells[index];
                        index += 2;
                        if (i < 0 || i >= store.rowLength[row]) {
                            fail(WHY_INDEX, places.stepPos[s]);
                            return NONE;
                        }
                        cell = Store.elementAt(row, (int) i);
                        break;
                }
            }
            return cell;
        }

        private void giveTo(int p, int cell) {
            if (places.further[p]) {
                store.drop(places.type[p], cell);
            } else {
                for (int i = places.leaf[p]; i < places.leaf[p] + places.leaves[p]; i++) {
                    dropLeaf(i);
                }
                held |= places.leafBits(p);
            }
            int value = store.topValue();
            System.arraycopy(store.cells, value, store.cells, cell, types.cellsOf(places.type[p]));
            store.top = value;
        }

        /** Drops what a LEAF of the latest call has, if it has a value. */
        private void dropLeaf(int i) {
            if ((held >> i & 1) == 1) {
                held &= ~(1L << i);
                int leaf = functions.firstLeaf[fn] + i;
                store.drop(variables.leafType[leaf], base + variables.leafCell[leaf]);
            }
        }

        private void swapWith(int cell) {
            int value = store.topValue();
            for (int i = 0; value + i < store.top - 1; i++) {
                long older = store.cells[cell + i];
                store.cells[cell + i] = store.cells[value + i];
                store.cells[value + i] = older;
            }
        }

        private void changeRow(int at, int op, int row) {
            int length = store.rowLength[row];
            if (op == OP_PUSH) {
                if (length >= MOST_ELEMENTS) {
                    fail(WHY_FULL, program.pos[at]);
                    return;
                }
                store.rowLength[row] = length + 1;
                putElement(row, length);
                return;
            }
            if (length == 0) {
                fail(WHY_EMPTY, program.pos[at]);
                return;
            }
            store.rowLength[row] = length - 1;
            store.pushCells(Store.elementAt(row, length - 1), program.z[at]);
        }

        /** The value on top becomes an element. */
        private void putElement(int row, int i) {
            int value = store.topValue();
            System.arraycopy(store.cells, value, store.cells, Store.elementAt(row, i), store.top - 1 - value);
            store.top = value;
        }

        // ---- values

        private void performValue(int at, int op) {
            int x = program.x[at];
            switch (op) {
                case OP_NUMBER:
                    store.pushNumber((long) x << 32 | program.y[at] & 0xffffffffL, program.z[at]);
                    break;
                case OP_INPUT:
                    store.pushNumber(reads < givenTotal ? given[reads] : 0, INT);
                    reads++;
                    break;
                case OP_CHAIN:
                    chain(x, program.pos[at]);
                    break;
                case OP_MINUS:
                    store.cells[store.top - 2] = -store.cells[store.top - 2];
                    break;
                case OP_NOT:
                    store.cells[store.top - 2] = 1 - store.cells[store.top - 2];
                    break;
                case OP_RECORD:
                    compose(program.z[at], program.y[at], NONE);
                    pushParts(x);
                    store.made += types.isTold(x) ? 1 : 0;
                    break;
                case OP_VARIANT:
                    compose(program.z[at], NONE, program.y[at]);
                    parts[0] = program.y[at] - types.declFirst[types.arg[x]];
                    pushParts(x);
                    break;
                case OP_BOX:
                    box(x, program.pos[at]);
                    break;
                case OP_OPEN:
                    int opened = store.boxAt(store.topValue());
                    store.top -= 2;
                    if (store.isBox(opened / MOST_CELLS)) {
                        store.freeBox(opened / MOST_CELLS);
                    }
                    store.pushCells(opened, x);
                    break;
                default:
                    row(x, program.z[at], program.pos[at]);
                    break;
            }
        }

        private void chain(int sign, int pos) {
            long right = store.cells[store.top - 2];
            long left = store.cells[store.top - 4];
            if ((sign == '/' || sign == '%') && right == 0) {
                fail(WHY_DIVISOR, pos);
                return;
            }
            store.top -= 4;
            switch (sign) {
                case '+':
                    store.pushNumber(left + right, INT);
                    break;
                case '-':
                    store.pushNumber(left - right, INT);
                    break;
                case '*':
                    store.pushNumber(left * right, INT);
                    break;
                case '/':
                    store.pushNumber(right == 0 ? 0 : left / right, INT);
                    break;
                case '%':
                    store.pushNumber(right == 0 ? 0 : left % right, INT);
                    break;
                default:
                    store.pushNumber(compares(sign, left, right) ? 1 : 0, BOOL);
                    break;
            }
        }

        private static boolean compares(int sign, long left, long right) {
            switch (sign) {
                case EQUAL:
                    return left == right;
                case UNEQUAL:
                    return left != right;
                case '<':
                    return left < right;
                case '>':
                    return left > right;
                case AT_MOST:
                    return left <= right;
                default:
                    return left >= right;
            }
        }

        /** Takes values from the top into the cells of a new record (in its order) or of a new variant. */
        private void compose(int width, int order, int variant) {
            for (int i = 0; i < MOST_CELLS; i++) {
                parts[i] = 0;
            }
            for (int i = width - 1; i >= 0; i--) {
                int value = store.topValue();
                int cell = order >= 0 ? program.order[order + i] : types.memberCell[types.variantFirst[variant] + i];
                for (int k = 0; value + k < store.top - 1 && cell + k < MOST_CELLS; k++) {
                    parts[cell + k] = store.cells[value + k];
                }
                store.top = value;
            }
        }

        private void pushParts(int type) {
            int width = Math.min(types.cellsOf(type), MOST_CELLS);
            store.room(width + 1);
            System.arraycopy(parts, 0, store.cells, store.top, width);
            store.cells[store.top + width] = type;
            store.top += width + 1;
        }

        private void box(int type, int pos) {
            int box = store.takeBox();
            if (box < 0) {
                fail(WHY_FULL, pos);
                return;
            }
            int value = store.topValue();
            System.arraycopy(store.cells, value, store.cells, box * MOST_CELLS, store.top - 1 - value);
            store.top = value;
            store.pushNumber(box, type);
        }

        private void row(int type, int width, int pos) {
            int row = store.takeRow();
            if (row < 0) {
                fail(WHY_FULL, pos);
                return;
            }
            store.rowLength[row] = Math.min(width, MOST_ELEMENTS);
            for (int i = store.rowLength[row] - 1; i >= 0; i--) {
                putElement(row, i);
            }
            store.pushNumber(row, type);
        }

        // ---- variables

        private void performVariable(int at, int op) {
            int x = program.x[at];
            int value = store.top;
            switch (op) {
                case OP_PRINT:
                    store.top -= 2;
                    store.tell(0, store.cells[store.top]);
                    break;
                case OP_DROP:
                    value = store.topValue();
                    store.drop(store.typeOnTop(), value);
                    store.top = value;
                    break;
                case OP_LET:
                    value = store.topValue();
                    putVariable(x, value);
                    store.top = value;
                    break;
                case OP_BIND:
                    bind(x, program.y[at]);
                    break;
                case OP_UNBOUND:
                    store.drop(program.z[at], store.topValue() + program.y[at]);
                    break;
                case OP_MATCHED:
                    store.top = store.topValue();
                    break;
                case OP_ENDS:
                    for (int v = x; v >= 0 && v != program.y[at]; v = variables.outer[v]) {
                        endVariable(v);
                    }
                    break;
                default:
                    break;
            }
        }

        private void putVariable(int v, int from) {
            int cell = base + variables.cell[v];
            System.arraycopy(store.cells, from, store.cells, cell, types.cellsOf(variables.type[v]));
            held |= variables.leafBits(v, functions.firstLeaf[fn]);
        }

        private void bind(int v, int part) {
            int value = store.topValue();
            if (types.isReference(store.typeOnTop())) {
                store.cells[base + variables.cell[v]] = store.cells[value] + part;
                held |= variables.leafBits(v, functions.firstLeaf[fn]);
            } else {
                putVariable(v, value + part);
            }
        }

        private void endVariable(int v) {
            int leaf = variables.firstLeaf[v] - functions.firstLeaf[fn];
            for (int i = leaf; i < leaf + variables.leafCount[v]; i++) {
                dropLeaf(i);
            }
        }

        // ---- the way

        private void performWay(int at, int op) {
            int x = program.x[at];
            switch (op) {
                case OP_STEP:
                    if (steps >= mostSteps) {
                        ended = CUT;
                    } else {
                        steps++;
                    }
                    break;
                case OP_JUMP:
                    next = x;
                    break;
                case OP_UNLESS:
                    store.top -= 2;
                    next = store.cells[store.top] == 0 ? x : next;
                    break;
                case OP_AND:
                case OP_OR:
                    if (store.cells[store.top - 2] == (op == OP_OR ? 1 : 0)) {
                        next = x;
                    } else {
                        store.top -= 2;
                    }
                    break;
                case OP_CASE:
                    int value = store.topValue();
                    boolean reference = types.isReference(store.typeOnTop());
                    long tag = store.cells[reference ? store.meantAt(value) : value];
                    next = x >= 0 && tag != program.z[at] ? x : next;
                    break;
                case OP_CALL:
                    call(x, program.z[at], program.pos[at]);
                    break;
                case OP_RETURN:
                    finish(x == 1);
                    break;
                case OP_FAIL:
                    fail(WHY_FAIL, program.pos[at]);
                    break;
                default:
                    break;
            }
        }

        private void call(int f, int arguments, int pos) {
            if (calls >= MOST_CALLS) {
                fail(WHY_CALLS, pos);
                return;
            }
            int newBase = store.top;
            for (int i = 0; i < arguments; i++) {
                newBase -= 1 + types.cellsOf((int) store.cells[newBase - 1]);
            }
            int from = newBase;
            int cell = newBase;
            for (int i = 0; i < arguments; i++) {
                int width = types.cellsOf(functions.paramType[functions.firstParam[f] + i]);
                System.arraycopy(store.cells, from, store.cells, cell, width);
                cell += width;
                from += width + 1;
            }
            long[] caller = waiting[calls - 1];
            caller[0] = fn;
            caller[1] = base;
            caller[2] = held;
            caller[3] = next;
            open(f, newBase);
        }

        /** The latest call is over, with the value on top as its result or without one. */
        private void finish(boolean result) {
            int from = result ? store.topValue() : store.top;
            int width = store.top - from;
            System.arraycopy(store.cells, from, store.cells, base, width);
            store.top = base + width;
            resume();
            if (calls == 0) {
                ended = RAN;
            }
        }

        private void resume() {
            calls--;
            if (calls > 0) {
                long[] caller = waiting[calls - 1];
                fn = (int) caller[0];
                base = (int) caller[1];
                held = caller[2];
                next = (int) caller[3];
            }
        }

        /** Behind a failure: call by call, what was worked out and not used is dropped, then the variables END. */
        private void unwind() {
            for (int turn = 0; turn < MOST_CALLS && calls > 0; turn++) {
                int values = base + functions.cells[fn];
                for (int k = 0; k < MOST_MEMORY && store.top > values; k++) {
                    int value = store.topValue();
                    store.drop(store.typeOnTop(), value);
                    store.top = value;
                }
                for (int i = functions.variables[fn] - 1; i >= 0; i--) {
                    endVariable(functions.firstVariable[fn] + i);
                }
                store.top = base;
                resume();
            }
        }
    }
}
