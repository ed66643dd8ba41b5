import java.util.Arrays;

/**
 * A solver for games that are told by sheets of rules: a sheet is read and checked, its rules are
 * worked out for any state and moves, all states that can come are found and looked over for
 * defects, and of a game of two that has none the value is found, with a move that reaches it.
 */
public final class RuleSheets {
    /** There is none. */
    public static final int NONE = -1;

    private static final int SEVERAL = -2;

    private static final int MAX_SIGNS = 2000;
    private static final int MAX_LETTERS = 16;
    private static final int MAX_RULES = 60;
    private static final int MAX_CONDITIONS = 8;
    private static final int MAX_VARIABLES = 8;
    private static final int MAX_TERMS = 4;
    private static final int MAX_DEPTH = 10;
    private static final int MAX_ATOMS = 1000;
    private static final int MAX_TERM_SIGNS = 48;
    private static final int MAX_ROOM = 300000;
    private static final int MAX_STATE_TERMS = 60;
    private static final int MAX_ROLES = 4;
    private static final int MAX_STATES = 300;
    private static final int MAX_JOINT = 40;
    private static final int MAX_WORK = 30000000;
    private static final int MAX_GOAL = 100;

    /** The names that the document itself uses; the numbers below are their places. */
    private static final String WORDS = "role init true next does legal goal terminal not distinct ";
    private static final int ROLE = 0;
    private static final int INIT = 1;
    private static final int TRUE = 2;
    private static final int NEXT = 3;
    private static final int DOES = 4;
    private static final int LEGAL = 5;
    private static final int GOAL = 6;
    private static final int TERMINAL = 7;
    private static final int NOT = 8;
    private static final int DISTINCT = 9;
    private static final int[] WORD_TERMS = {1, 1, 1, 1, 2, 2, 2, 0};

    /** Two names have at least one sign between them, so a text has at most half as many. */
    private static final int MAX_NODES = MAX_SIGNS / 2;
    private static final int MAX_NAMES = MAX_NODES + 10;
    private static final int MAX_PARTS = MAX_RULES * (1 + MAX_CONDITIONS);

    private static final int NOT_A_SHEET = 1;
    private static final int WRONG_NUMBER = 2;
    private static final int WRONG_WORD = 3;
    private static final int WRONG_DEPENDENCE = 4;
    private static final int UNSAFE = 5;
    private static final int WRONG_STRATA = 6;
    private static final int WRONG_RECURSION = 7;

    /** How far something that is found once has come. */
    private static final int UNKNOWN = 0;
    private static final int KNOWN = 1;
    private static final int TOO_GREAT = 2;

    private final char[] text = new char[MAX_SIGNS];
    private int length;
    private int faultAt = NONE;
    private final Sheet oneSheet = new Sheet();
    private final Sheet otherSheet = new Sheet();
    private Sheet current;
    private final Parser parser = new Parser();
    private final Checker checker = new Checker();
    private final Terms terms = new Terms();
    private final Model model = new Model(terms);
    private Position now = new Position();
    private Position spare = new Position();
    private boolean hasState;
    private Search search;
    private int explored = UNKNOWN;

    public RuleSheets() {
    }

    public int put(int signs) throws IllegalArgumentException, UnsupportedOperationException {
        int more = 0;
        for (int k = 0; k < 32; k += 8) {
            int sign = (signs >>> k) & 255;
            if (!isSign(sign)) {
                throw new IllegalArgumentException("a byte is no sign of a text");
            }
            more += sign == 0 ? 0 : 1;
        }
        if (length + more > MAX_SIGNS) {
            throw new UnsupportedOperationException("the text would be too long");
        }
        for (int k = 0; k < 32; k += 8) {
            int sign = (signs >>> k) & 255;
            if (sign != 0) {
                text[length++] = (char) sign;
            }
        }
        return length;
    }

    private static boolean isSign(int sign) {
        return sign == 0 || sign == '\n' || sign >= ' ' && sign <= '~';
    }

    public void end(int n) throws IllegalArgumentException {
        if (n < 0 || n > length) {
            throw new IllegalArgumentException("the text has not so many signs");
        }
        length = n;
    }

    public int read() {
        Sheet fresh = current == oneSheet ? otherSheet : oneSheet;
        faultAt = parser.parse(text, length, fresh);
        if (faultAt != NONE) {
            return NOT_A_SHEET;
        }
        int found = checker.check(fresh);
        faultAt = checker.where;
        if (found == 0) {
            current = fresh;
            model.load(fresh);
            hasState = false;
            explored = UNKNOWN;
        }
        return found;
    }

    public int fault() {
        return faultAt;
    }

    public int sheet(int what) throws IllegalStateException, IllegalArgumentException {
        needSheet();
        if (what < 0 || what > 1) {
            throw new IllegalArgumentException("what is 0 or 1");
        }
        return what == 0 ? current.rules : terms.roles;
    }

    private void needSheet() throws IllegalStateException {
        if (current == null) {
            throw new IllegalStateException("there is no sheet");
        }
    }

    private void needState() throws IllegalStateException {
        if (!hasState) {
            throw new IllegalStateException("there is no state");
        }
    }

    private void needRole(int r) throws IndexOutOfBoundsException {
        if (r < 0 || r >= terms.roles) {
            throw new IndexOutOfBoundsException("there is no such role");
        }
    }

    public int start() throws IllegalStateException, UnsupportedOperationException {
        needSheet();
        model.clear();
        become(INIT);
        return now.count;
    }

    /** Works out what has been assumed, and makes the terms of init or next the state. */
    private void become(int relation) throws UnsupportedOperationException {
        int mark = terms.top;
        if (!model.workOut() || !model.tellState(relation, spare)) {
            terms.release(mark);
            throw new UnsupportedOperationException("it is too great");
        }
        terms.keep(spare.term, 0, spare.count, terms.base);
        Position past = now;
        now = spare;
        spare = past;
        now.seen = UNKNOWN;
        hasState = true;
    }

    /** Finds the state's moves and goals, once for a state. */
    private void look() throws UnsupportedOperationException {
        if (now.seen == UNKNOWN) {
            int mark = terms.top;
            model.assumeState(now.term, 0, now.count);
            if (model.workOut()) {
                model.tellMoves(now);
                terms.keep(now.move, 0, now.moveStart[terms.roles], mark);
                now.seen = KNOWN;
            } else {
                terms.release(mark);
                now.seen = TOO_GREAT;
            }
        }
        if (now.seen == TOO_GREAT) {
            throw new UnsupportedOperationException("the state is too great");
        }
    }

    public int moves(int r) throws IllegalStateException, IndexOutOfBoundsException, UnsupportedOperationException {
        needState();
        needRole(r);
        look();
        return now.movesOf(r);
    }

    public boolean terminal() throws IllegalStateException, UnsupportedOperationException {
        needState();
        look();
        return now.over;
    }

    public int goal(int r) throws IllegalStateException, IndexOutOfBoundsException, UnsupportedOperationException {
        needState();
        needRole(r);
        look();
        return now.goal[r];
    }

    public int play(int j) throws IllegalStateException, IndexOutOfBoundsException, UnsupportedOperationException {
        needState();
        if (j < 0 || terms.roles == 0) {
            throw new IndexOutOfBoundsException("there is no such joint move");
        }
        look();
        if (j >= now.joint(terms.roles)) {
            throw new IndexOutOfBoundsException("there is no such joint move");
        }
        model.assumeState(now.term, 0, now.count);
        model.assumeMoves(now, j);
        become(NEXT);
        return now.count;
    }

    public int sign(int what, int i, int k) throws IllegalStateException, IllegalArgumentException, IndexOutOfBoundsException, UnsupportedOperationException {
        needSheet();
        if (what < 0 || what > 5) {
            throw new IllegalArgumentException("what is 0 to 5");
        }
        if (what < 5) {
            needState();
        }
        if (i < 0 || k < 0) {
            throw new IndexOutOfBoundsException("a number is below 0");
        }
        if (what == 0) {
            return terms.signAt(termOfState(i), k);
        }
        if (what == 5) {
            needRole(i);
            return terms.signAt(terms.role[i], k);
        }
        needRole(what - 1);
        look();
        return terms.signAt(moveOf(what - 1, i), k);
    }

    private int termOfState(int i) throws IndexOutOfBoundsException {
        if (i >= now.count) {
            throw new IndexOutOfBoundsException("there is no such term");
        }
        return now.term[i];
    }

    private int moveOf(int r, int i) throws IndexOutOfBoundsException {
        if (i >= now.movesOf(r)) {
            throw new IndexOutOfBoundsException("there is no such move");
        }
        return now.move[now.moveStart[r] + i];
    }

    public int explore() throws IllegalStateException, UnsupportedOperationException {
        needSheet();
        if (search == null) {
            search = new Search(terms, model);
        }
        if (explored == UNKNOWN) {
            int mark = terms.top;
            search.open(spare);
            for (int n = 0; n < MAX_STATES && n < search.count && !search.great; n++) {
                int known = search.count;
                int low = terms.top;
                search.look(n, spare);
                for (int j = 0; j < search.joint[n] && !search.great; j++) {
                    search.follow(n, j, spare);
                }
                search.keepRows(known, low);
            }
            terms.release(mark);
            search.judge();
            explored = search.great ? TOO_GREAT : KNOWN;
        }
        if (explored == TOO_GREAT) {
            throw new UnsupportedOperationException("the states are too great");
        }
        return search.count;
    }

    private void needStates() throws IllegalStateException {
        if (explored != KNOWN) {
            throw new IllegalStateException("the states aren't known");
        }
    }

    private void needStateNumber(int n) throws IndexOutOfBoundsException {
        if (n < 0 || n >= search.count) {
            throw new IndexOutOfBoundsException("there is no such state");
        }
    }

    public int defect(int what) throws IllegalStateException, IllegalArgumentException {
        needStates();
        if (what < 0 || what > 1) {
            throw new IllegalArgumentException("what is 0 or 1");
        }
        return what == 0 ? search.worst : search.worstState;
    }

    public int state(int n, int what) throws IllegalStateException, IndexOutOfBoundsException, IllegalArgumentException {
        needStates();
        needStateNumber(n);
        switch (what) {
            case 0:
                return search.rowStart[n + 1] - search.rowStart[n];
            case 1:
                return search.over[n] ? 1 : 0;
            case 2:
                return search.joint[n];
            default:
                throw new IllegalArgumentException("what is 0 to 2");
        }
    }

    public int next(int n, int j) throws IllegalStateException, IndexOutOfBoundsException {
        needStates();
        needStateNumber(n);
        if (j < 0 || j >= search.joint[n]) {
            throw new IndexOutOfBoundsException("there is no such joint move");
        }
        return search.follower[n * MAX_JOINT + j];
    }

    private void needValues() throws IllegalStateException {
        needStates();
        if (search.worst != 0) {
            throw new IllegalStateException("the states have a defect");
        }
    }

    public int value(int n) throws IllegalStateException, IndexOutOfBoundsException {
        needValues();
        needStateNumber(n);
        return search.worth[n];
    }

    public int best(int n) throws IllegalStateException, IndexOutOfBoundsException {
        needValues();
        needStateNumber(n);
        return search.choice[n];
    }

    /** The names of a sheet, each with a number; the words of the document come first. */
    private static final class Names {
        private static final int BUCKETS = 256;

        private final char[] words = WORDS.toCharArray();
        private final char[] letter = new char[MAX_SIGNS + WORDS.length()];
        private final int[] from = new int[MAX_NAMES + 1];
        private final int[] link = new int[MAX_NAMES];
        private final int[] bucket = new int[BUCKETS];
        private int count;

        void clear() {
            Arrays.fill(bucket, NONE);
            count = 0;
            int begin = 0;
            for (int k = 0; k < words.length; k++) {
                if (words[k] == ' ') {
                    enter(words, begin, k);
                    begin = k + 1;
                }
            }
        }

        int enter(char[] signs, int begin, int behind) {
            int hash = 0;
            for (int k = begin; k < behind; k++) {
                hash = hash * 31 + signs[k];
            }
            int slot = (hash ^ hash >>> 8) & BUCKETS - 1;
            for (int n = bucket[slot]; n != NONE; n = link[n]) {
                if (isWritten(n, signs, begin, behind)) {
                    return n;
                }
            }
            link[count] = bucket[slot];
            bucket[slot] = count;
            System.arraycopy(signs, begin, letter, from[count], behind - begin);
            from[count + 1] = from[count] + behind - begin;
            return count++;
        }

        private boolean isWritten(int n, char[] signs, int begin, int behind) {
            if (length(n) != behind - begin) {
                return false;
            }
            for (int k = begin; k < behind; k++) {
                if (letter[from[n] + k - begin] != signs[k]) {
                    return false;
                }
            }
            return true;
        }

        int length(int n) {
            return from[n + 1] - from[n];
        }

        int compare(int a, int b) {
            int both = Math.min(length(a), length(b));
            for (int k = 0; k < both; k++) {
                int apart = letter[from[a] + k] - letter[from[b] + k];
                if (apart != 0) {
                    return apart;
                }
            }
            return length(a) - length(b);
        }

        /** The goal that a name tells, or NONE. */
        int number(int n) {
            if (length(n) > 3) {
                return NONE;
            }
            int number = 0;
            for (int k = from[n]; k < from[n + 1]; k++) {
                if (letter[k] < '0' || letter[k] > '9') {
                    return NONE;
                }
                number = number * 10 + letter[k] - '0';
            }
            return number <= MAX_GOAL ? number : NONE;
        }
    }

    /**
     * The rules of a sheet. All terms and atoms are nodes in the order of the text: a node's shape is
     * its name times 8 and its number of terms, or ~v for the rule's variable v; its first term is
     * the node behind it, and after[] tells the node behind all its terms. A rule's parts are its
     * head and its conditions; of distinct the second term is the one behind the first.
     */
    private static final class Sheet {
        private static final int HEAD = 0;
        private static final int POSITIVE = 1;
        private static final int NEGATIVE = 2;
        private static final int UNLIKE = 3;

        private final Names names = new Names();
        private final int[] shape = new int[MAX_NODES];
        private final int[] after = new int[MAX_NODES];
        private int nodes;
        private final int[] partNode = new int[MAX_PARTS];
        private final byte[] partKind = new byte[MAX_PARTS];
        private int parts;
        private final int[] firstPart = new int[MAX_RULES + 1];
        private int rules;
        /** The rules in groups, so that what one needs of other groups is ahead of it. */
        private final int[] order = new int[MAX_RULES];
        /** So many of them bring the same whatever state and moves are. */
        private int steady;
        private final boolean[] endsGroup = new boolean[MAX_RULES];
        private final boolean[] recursive = new boolean[MAX_RULES];

        void clear() {
            names.clear();
            nodes = 0;
            parts = 0;
            rules = 0;
            firstPart[0] = 0;
        }

        int addNode(int itsShape) {
            shape[nodes] = itsShape;
            after[nodes] = nodes + 1;
            return nodes++;
        }

        void addPart(int kind, int node) {
            partKind[parts] = (byte) kind;
            partNode[parts] = node;
            parts++;
        }

        void closeRule() {
            rules++;
            firstPart[rules] = parts;
        }

        int relation(int part) {
            return shape[partNode[part]] >> 3;
        }

        boolean isAtom(int part) {
            return partKind[part] != UNLIKE;
        }

        /** The variables of the nodes from one up to another, a bit for each. */
        int variables(int node, int behind) {
            int found = 0;
            for (int k = node; k < behind; k++) {
                if (shape[k] < 0) {
                    found |= 1 << ~shape[k];
                }
            }
            return found;
        }

        int variablesOfPart(int part) {
            int node = partNode[part];
            int behind = partKind[part] == UNLIKE ? after[after[node]] : after[node];
            return variables(node, behind);
        }

        boolean areSame(int a, int b) {
            int length = after[a] - a;
            if (after[b] - b != length) {
                return false;
            }
            for (int k = 0; k < length; k++) {
                if (shape[a + k] != shape[b + k]) {
                    return false;
                }
            }
            return true;
        }
    }

    /** Cuts a text into tokens and takes the rules from them. */
    private static final class Parser {
        /** A name's code is twice its number, a variable's one more; these are all others. */
        private static final int OPEN = -2;
        private static final int CLOSE = -3;
        private static final int ARROW = -4;
        private static final int END = -5;
        private static final int WRONG = -6;

        private final int[] code = new int[MAX_SIGNS + 1];
        private final int[] place = new int[MAX_SIGNS + 1];
        private int tokens;
        private int at;
        private final int[] variable = new int[MAX_VARIABLES];
        private int variables;
        private Sheet sheet;

        /** The place where the text is no sheet, or NONE. */
        int parse(char[] text, int signs, Sheet into) {
            sheet = into;
            sheet.clear();
            cut(text, signs);
            at = 0;
            for (int n = 0; n < MAX_RULES && code[at] != END; n++) {
                if (!takeRule()) {
                    return place[at];
                }
                sheet.closeRule();
            }
            return sheet.rules > 0 && code[at] == END ? NONE : place[at];
        }

        /** Nothing behind a wrong sign is looked at, as nothing can follow it. */
        private void cut(char[] text, int signs) {
            tokens = 0;
            for (int k = 0; k < signs; k++) {
                if (text[k] == ';') {
                    k = lineEnd(text, k, signs);
                } else if (text[k] != ' ' && text[k] != '\n') {
                    k = cutToken(text, k, signs);
                    if (code[tokens - 1] == WRONG) {
                        return;
                    }
                }
            }
            addToken(END, signs);
        }

        private static int lineEnd(char[] text, int k, int signs) {
            int end = k;
            while (end < signs && text[end] != '\n') {
                end++;
            }
            return end;
        }

        /** Adds the token that begins at k, and tells where its last sign is. */
        private int cutToken(char[] text, int k, int signs) {
            char sign = text[k];
            if (sign == '(' || sign == ')') {
                addToken(sign == '(' ? OPEN : CLOSE, k);
                return k;
            }
            if (sign == '<' && k + 1 < signs && text[k + 1] == '=') {
                addToken(ARROW, k);
                return k + 1;
            }
            int begin = sign == '?' ? k + 1 : k;
            int behind = nameEnd(text, begin, signs);
            if (behind == begin || behind - begin > MAX_LETTERS) {
                addToken(WRONG, k);
                return k;
            }
            addToken(2 * sheet.names.enter(text, begin, behind) + begin - k, k);
            return behind - 1;
        }

        private static int nameEnd(char[] text, int begin, int signs) {
            int behind = begin;
            while (behind < signs && isLetter(text[behind])) {
                behind++;
            }
            return behind;
        }

        private static boolean isLetter(char sign) {
            return sign >= 'a' && sign <= 'z' || sign >= '0' && sign <= '9' || sign == '_';
        }

        private void addToken(int itsCode, int itsPlace) {
            code[tokens] = itsCode;
            place[tokens] = itsPlace;
            tokens++;
        }

        private boolean takeRule() {
            variables = 0;
            if (code[at] != OPEN || code[at + 1] != ARROW) {
                return takeAtom(Sheet.HEAD, 0);
            }
            at += 2;
            if (!takeAtom(Sheet.HEAD, 1)) {
                return false;
            }
            for (int n = 0; n < MAX_CONDITIONS && code[at] != CLOSE; n++) {
                if (!takeCondition()) {
                    return false;
                }
            }
            return takeClose();
        }

        private boolean takeCondition() {
            if (code[at] == OPEN && code[at + 1] == 2 * NOT) {
                at += 2;
                return takeAtom(Sheet.NEGATIVE, 2) && takeClose();
            }
            if (code[at] == OPEN && code[at + 1] == 2 * DISTINCT) {
                at += 2;
                sheet.addPart(Sheet.UNLIKE, sheet.nodes);
                return takeTerm(2, false) && takeTerm(2, false) && takeClose();
            }
            return takeAtom(Sheet.POSITIVE, 1);
        }

        private boolean takeAtom(int kind, int depth) {
            sheet.addPart(kind, sheet.nodes);
            return takeTerm(depth, true);
        }

        private boolean takeClose() {
            if (code[at] != CLOSE) {
                return false;
            }
            at++;
            return true;
        }

        /** Takes a term, or only one that can be an atom, inside so many parentheses. */
        private boolean takeTerm(int depth, boolean asAtom) {
            int token = code[at];
            if (isVariable(token)) {
                return !asAtom && takeVariable(token >> 1);
            }
            if (isName(token)) {
                sheet.addNode(token >> 1 << 3);
                at++;
                return true;
            }
            if (token != OPEN || depth >= MAX_DEPTH) {
                return false;
            }
            at++;
            if (!isName(code[at])) {
                return false;
            }
            int node = sheet.addNode(code[at] >> 1 << 3);
            at++;
            for (int n = 0; n < MAX_TERMS && (n == 0 || code[at] != CLOSE); n++) {
                if (!takeTerm(depth + 1, false)) {
                    return false;
                }
                sheet.shape[node]++;
            }
            sheet.after[node] = sheet.nodes;
            return takeClose();
        }

        private static boolean isVariable(int token) {
            return token >= 0 && (token & 1) == 1;
        }

        private static boolean isName(int token) {
            return token >= 0 && (token & 1) == 0 && token != 2 * NOT && token != 2 * DISTINCT;
        }

        private boolean takeVariable(int name) {
            int v = 0;
            while (v < variables && variable[v] != name) {
                v++;
            }
            if (v == MAX_VARIABLES) {
                return false;
            }
            if (v == variables) {
                variable[v] = name;
                variables++;
            }
            sheet.addNode(~v);
            at++;
            return true;
        }
    }

    /** Finds the faults 2 to 7 of a sheet, and the order in which its rules are worked out. */
    private static final class Checker {
        /** Relations that are some head's have the bits from 0 on; true and does have these. */
        private static final int TRUE_BIT = 60;
        private static final int DOES_BIT = 61;
        /** More than all that can be needed. */
        private static final int CHANGING = 64;

        private final int[] numberOfTerms = new int[MAX_NAMES];
        private final int[] bitOf = new int[MAX_NAMES];
        private final long[] needs = new long[DOES_BIT + 1];
        private final int[] needed = new int[MAX_RULES];
        private int heads;
        private int where;
        private Sheet sheet;

        /** The first fault, its place in where; 0 if there is none. */
        int check(Sheet itsSheet) {
            sheet = itsSheet;
            where = wrongNumber();
            if (where != NONE) {
                return WRONG_NUMBER;
            }
            where = wrongWord();
            if (where != NONE) {
                return WRONG_WORD;
            }
            findNeeds();
            where = wrongDependence();
            if (where != NONE) {
                return WRONG_DEPENDENCE;
            }
            where = unsafe();
            if (where != NONE) {
                return UNSAFE;
            }
            where = wrongStrata();
            if (where != NONE) {
                return WRONG_STRATA;
            }
            where = wrongRecursion();
            if (where != NONE) {
                return WRONG_RECURSION;
            }
            arrange();
            return 0;
        }

        private int wrongNumber() {
            Arrays.fill(numberOfTerms, 0, sheet.names.count, NONE);
            System.arraycopy(WORD_TERMS, 0, numberOfTerms, 0, WORD_TERMS.length);
            for (int r = 0; r < sheet.rules; r++) {
                for (int p = sheet.firstPart[r]; p < sheet.firstPart[r + 1]; p++) {
                    if (sheet.isAtom(p) && !hasItsNumber(sheet.shape[sheet.partNode[p]])) {
                        return r;
                    }
                }
            }
            return NONE;
        }

        private boolean hasItsNumber(int shape) {
            int name = shape >> 3;
            if (numberOfTerms[name] == NONE) {
                numberOfTerms[name] = shape & 7;
            }
            return numberOfTerms[name] == (shape & 7);
        }

        private int wrongWord() {
            for (int r = 0; r < sheet.rules; r++) {
                int head = sheet.firstPart[r];
                if (isWrongHead(head, sheet.firstPart[r + 1])) {
                    return r;
                }
                for (int p = head + 1; p < sheet.firstPart[r + 1]; p++) {
                    if (sheet.isAtom(p) && (sheet.relation(p) == INIT || sheet.relation(p) == NEXT)) {
                        return r;
                    }
                }
            }
            return NONE;
        }

        private boolean isWrongHead(int head, int behind) {
            int name = sheet.relation(head);
            if (name == ROLE) {
                return behind > head + 1 || sheet.variablesOfPart(head) != 0;
            }
            return name == TRUE || name == DOES;
        }

        private void findNeeds() {
            Arrays.fill(bitOf, 0, sheet.names.count, NONE);
            Arrays.fill(needs, 0);
            bitOf[TRUE] = TRUE_BIT;
            bitOf[DOES] = DOES_BIT;
            heads = 0;
            for (int r = 0; r < sheet.rules; r++) {
                int name = sheet.relation(sheet.firstPart[r]);
                if (bitOf[name] == NONE) {
                    bitOf[name] = heads++;
                }
            }
            for (int r = 0; r < sheet.rules; r++) {
                for (int p = sheet.firstPart[r] + 1; p < sheet.firstPart[r + 1]; p++) {
                    if (sheet.isAtom(p) && bitOf[sheet.relation(p)] != NONE) {
                        needs[headBit(r)] |= 1L << bitOf[sheet.relation(p)];
                    }
                }
            }
            for (int k = 0; k < heads; k++) {
                for (int h = 0; h < heads; h++) {
                    if ((needs[h] >> k & 1) != 0) {
                        needs[h] |= needs[k];
                    }
                }
            }
        }

        private int headBit(int rule) {
            return bitOf[sheet.relation(sheet.firstPart[rule])];
        }

        private int wrongDependence() {
            if (needsOneOf(INIT, 1L << TRUE_BIT | 1L << DOES_BIT)) {
                return 0;
            }
            if (needsOneOf(LEGAL, 1L << DOES_BIT)) {
                return 1;
            }
            if (needsOneOf(GOAL, 1L << DOES_BIT)) {
                return 2;
            }
            return needsOneOf(TERMINAL, 1L << DOES_BIT) ? 3 : NONE;
        }

        private boolean needsOneOf(int name, long bits) {
            return bitOf[name] != NONE && (needs[bitOf[name]] & bits) != 0;
        }

        private int unsafe() {
            for (int r = 0; r < sheet.rules; r++) {
                int bound = 0;
                int used = 0;
                for (int p = sheet.firstPart[r]; p < sheet.firstPart[r + 1]; p++) {
                    if (sheet.partKind[p] == Sheet.POSITIVE) {
                        bound |= sheet.variablesOfPart(p);
                    } else {
                        used |= sheet.variablesOfPart(p);
                    }
                }
                if ((used & ~bound) != 0) {
                    return r;
                }
            }
            return NONE;
        }

        /** Whether a condition's relation is that of the rule's head, or depends on it. */
        private boolean comesFromHead(int part, int rule) {
            int bit = bitOf[sheet.relation(part)];
            int head = headBit(rule);
            return bit != NONE && (bit == head || (needs[bit] >> head & 1) != 0);
        }

        private int wrongStrata() {
            for (int r = 0; r < sheet.rules; r++) {
                for (int p = sheet.firstPart[r] + 1; p < sheet.firstPart[r + 1]; p++) {
                    if (sheet.partKind[p] == Sheet.NEGATIVE && comesFromHead(p, r)) {
                        return r;
                    }
                }
            }
            return NONE;
        }

        private int wrongRecursion() {
            for (int r = 0; r < sheet.rules; r++) {
                sheet.recursive[r] = false;
                for (int p = sheet.firstPart[r] + 1; p < sheet.firstPart[r + 1]; p++) {
                    if (sheet.partKind[p] == Sheet.POSITIVE && comesFromHead(p, r)) {
                        sheet.recursive[r] = true;
                        if (hasLooseTerm(p, r)) {
                            return r;
                        }
                    }
                }
            }
            return NONE;
        }

        /** Whether a recursive condition has a term that could grow without an end. */
        private boolean hasLooseTerm(int part, int rule) {
            int node = sheet.partNode[part];
            for (int t = node + 1; t < sheet.after[node]; t = sheet.after[t]) {
                if (sheet.variables(t, sheet.after[t]) != 0 && !isHeld(t, rule)) {
                    return true;
                }
            }
            return false;
        }

        private boolean isHeld(int term, int rule) {
            int head = sheet.firstPart[rule];
            for (int p = head; p < sheet.firstPart[rule + 1]; p++) {
                boolean holds = p == head || sheet.partKind[p] == Sheet.POSITIVE && !comesFromHead(p, rule);
                if (holds && isTermOf(term, sheet.partNode[p])) {
                    return true;
                }
            }
            return false;
        }

        private boolean isTermOf(int term, int node) {
            for (int t = node + 1; t < sheet.after[node]; t = sheet.after[t]) {
                if (sheet.areSame(t, term)) {
                    return true;
                }
            }
            return false;
        }

        /**
         * A relation needs all that those need that it needs, so it needs more than any of them
         * unless they need it, too: to sort by that number puts all that is needed ahead. Those of
         * one number are a group; they need one another, or have nothing to do with each other.
         * What needs neither true nor does goes ahead of all that does.
         */
        private void arrange() {
            sheet.steady = 0;
            for (int r = 0; r < sheet.rules; r++) {
                needed[r] = numberNeeded(headBit(r));
                sheet.steady += needed[r] < CHANGING ? 1 : 0;
                int k = r;
                while (k > 0 && needed[sheet.order[k - 1]] > needed[r]) {
                    sheet.order[k] = sheet.order[k - 1];
                    k--;
                }
                sheet.order[k] = r;
            }
            for (int k = 0; k < sheet.rules; k++) {
                sheet.endsGroup[k] = k + 1 == sheet.rules || needed[sheet.order[k]] < needed[sheet.order[k + 1]];
            }
        }

        private int numberNeeded(int head) {
            long all = needs[head] | 1L << head;
            boolean changes = (all >> TRUE_BIT) != 0;
            return Long.bitCount(all) + (changes ? CHANGING : 0);
        }
    }

    /**
     * Terms without variables, each once: that of a name has the name's number, others come behind,
     * each behind its own terms. They are dropped from the last one back.
     */
    private static final class Terms {
        /** A power of two, and more than all names. */
        private static final int FIRST_ROOM = 1024;

        private int[] shape = new int[FIRST_ROOM];
        private int[] arg = new int[MAX_TERMS * FIRST_ROOM];
        private int[] size = new int[FIRST_ROOM];
        /** A number that depends on what the term is, but not on which number it has. */
        private int[] fingerprint = new int[FIRST_ROOM];
        private int[] link = new int[FIRST_ROOM];
        private int[] moved = new int[FIRST_ROOM];
        private int[] bucket = new int[FIRST_ROOM];
        private int top;
        /** The terms that the sheet itself needs end here. */
        private int base;
        private final int[] row = new int[MAX_TERMS];
        private final int[] role = new int[MAX_ROLES];
        private int roles;
        private Names names;

        void load(Names itsNames) {
            names = itsNames;
            top = 0;
            roles = 0;
            Arrays.fill(bucket, NONE);
            for (int n = 0; n < names.count; n++) {
                shape[n] = n << 3;
                size[n] = names.length(n);
                fingerprint[n] = (n + 1) * 0x9E3779B1;
            }
            top = names.count;
            base = top;
        }

        void addRole(int term) {
            for (int r = 0; r < roles; r++) {
                if (role[r] == term) {
                    return;
                }
            }
            if (roles < MAX_ROLES) {
                role[roles++] = term;
            }
        }

        /** Makes room for so many more terms; in great steps, as what the old rows took stays counted. */
        void reserve(int more) {
            int all = shape.length;
            for (int k = 0; k < 8 && all < top + more; k++) {
                all *= 4;
            }
            if (all > shape.length) {
                grow(all);
            }
        }

        private void grow(int all) {
            shape = Arrays.copyOf(shape, all);
            arg = Arrays.copyOf(arg, MAX_TERMS * all);
            size = Arrays.copyOf(size, all);
            fingerprint = Arrays.copyOf(fingerprint, all);
            link = Arrays.copyOf(link, all);
            moved = new int[all];
            bucket = new int[all];
            Arrays.fill(bucket, NONE);
            for (int t = names.count; t < top; t++) {
                int slot = fingerprint[t] & all - 1;
                link[t] = bucket[slot];
                bucket[slot] = t;
            }
        }

        /** The term of a shape whose own terms are in row; NONE if it isn't known and not to be added. */
        int intern(int itsShape, boolean add) {
            int n = itsShape & 7;
            int its = itsShape;
            int length = size[itsShape >> 3] + 2 + n;
            for (int k = 0; k < n; k++) {
                its = (its ^ fingerprint[row[k]]) * 0x2C1B3C6D;
                its ^= its >>> 15;
                length += size[row[k]];
            }
            int slot = its & bucket.length - 1;
            for (int t = bucket[slot]; t != NONE; t = link[t]) {
                int same = 0;
                while (same < n && arg[MAX_TERMS * t + same] == row[same]) {
                    same++;
                }
                if (same == n && shape[t] == itsShape) {
                    return t;
                }
            }
            if (!add) {
                return NONE;
            }
            shape[top] = itsShape;
            System.arraycopy(row, 0, arg, MAX_TERMS * top, n);
            size[top] = length;
            fingerprint[top] = its;
            link[top] = bucket[slot];
            bucket[slot] = top;
            return top++;
        }

        /** Drops all terms from mark on. */
        void release(int mark) {
            for (int t = top - 1; t >= mark; t--) {
                bucket[fingerprint[t] & bucket.length - 1] = link[t];
            }
            top = Math.min(top, mark);
        }

        /** Drops all terms from mark on but some with what is in them, which get new numbers. */
        void keep(int[] some, int begin, int behind, int mark) {
            Arrays.fill(moved, mark, top, NONE);
            for (int k = begin; k < behind; k++) {
                want(some[k], mark);
            }
            for (int t = top - 1; t >= mark; t--) {
                for (int k = 0; moved[t] != NONE && k < (shape[t] & 7); k++) {
                    want(arg[MAX_TERMS * t + k], mark);
                }
            }
            int past = top;
            release(mark);
            for (int t = mark; t < past; t++) {
                if (moved[t] != NONE) {
                    moved[t] = move(t, mark);
                }
            }
            for (int k = begin; k < behind; k++) {
                some[k] = some[k] < mark ? some[k] : moved[some[k]];
            }
        }

        private void want(int term, int mark) {
            if (term >= mark) {
                moved[term] = term;
            }
        }

        private int move(int term, int mark) {
            for (int k = 0; k < (shape[term] & 7); k++) {
                int part = arg[MAX_TERMS * term + k];
                row[k] = part < mark ? part : moved[part];
            }
            return intern(shape[term], true);
        }

        /**
         * The order of the texts. A ( goes ahead of all signs of names; behind terms alike, a blank
         * (a further term) goes ahead of ) .
         */
        int compare(int a, int b) {
            if (a == b) {
                return 0;
            }
            int ofA = shape[a] & 7;
            int ofB = shape[b] & 7;
            if (ofA == 0 || ofB == 0) {
                return ofA == ofB ? names.compare(a, b) : ofB - ofA;
            }
            int apart = names.compare(shape[a] >> 3, shape[b] >> 3);
            for (int k = 0; apart == 0 && k < ofA && k < ofB; k++) {
                apart = compare(arg[MAX_TERMS * a + k], arg[MAX_TERMS * b + k]);
            }
            return apart != 0 ? apart : ofB - ofA;
        }

        /** Puts a term in its place among so many that are in order from begin on. */
        void insert(int[] some, int begin, int number, int term) {
            int low = begin;
            int high = begin + number;
            while (low < high) {
                int mid = (low + high) >>> 1;
                if (compare(some[mid], term) < 0) {
                    low = mid + 1;
                } else {
                    high = mid;
                }
            }
            System.arraycopy(some, low, some, low + 1, begin + number - low);
            some[low] = term;
        }

        /** A sign of a term's text; 0 behind its end. */
        int signAt(int term, int place) {
            int t = term;
            int k = place;
            for (int level = 0; level < MAX_TERM_SIGNS && k < size[t] && (shape[t] & 7) > 0; level++) {
                int name = shape[t] >> 3;
                if (k == 0) {
                    return '(';
                }
                if (k <= size[name]) {
                    return names.letter[names.from[name] + k - 1];
                }
                if (k == size[t] - 1) {
                    return ')';
                }
                k -= 1 + size[name];
                int part = MAX_TERMS * t;
                int lastPart = part + (shape[t] & 7) - 1;
                while (part < lastPart && k > size[arg[part]]) {
                    k -= 1 + size[arg[part]];
                    part++;
                }
                if (k == 0) {
                    return ' ';
                }
                k--;
                t = arg[part];
            }
            return k < size[t] ? names.letter[names.from[t] + k] : 0;
        }
    }

    /** The atoms that hold, in the order in which they came. */
    private static final class Atoms {
        private static final int BUCKETS = 1024;

        private final int[] name = new int[MAX_ATOMS];
        private final int[] arg = new int[MAX_TERMS * MAX_ATOMS];
        /** The next atom of the same relation. */
        private final int[] later = new int[MAX_ATOMS];
        private final int[] slot = new int[MAX_ATOMS];
        private final int[] link = new int[MAX_ATOMS];
        private final int[] bucket = new int[BUCKETS];
        private final int[] first = new int[MAX_NAMES];
        private final int[] last = new int[MAX_NAMES];
        private final int[] number = new int[MAX_NAMES];
        private final int[] row = new int[MAX_TERMS];
        private int count;

        Atoms() {
            Arrays.fill(bucket, NONE);
            Arrays.fill(first, NONE);
        }

        /** Drops all atoms from mark on; none of their relations has one ahead of it. */
        void release(int mark) {
            for (int a = count - 1; a >= mark; a--) {
                bucket[slot[a]] = link[a];
                first[name[a]] = NONE;
                number[name[a]] = 0;
            }
            count = Math.min(count, mark);
        }

        private int slotOfRow(int itsName, int n) {
            int hash = itsName;
            for (int k = 0; k < n; k++) {
                hash = (hash ^ row[k]) * 0x2C1B3C6D;
                hash ^= hash >>> 15;
            }
            return hash & BUCKETS - 1;
        }

        private int findIn(int itsSlot, int itsName, int n) {
            for (int a = bucket[itsSlot]; a != NONE; a = link[a]) {
                int same = 0;
                while (same < n && arg[MAX_TERMS * a + same] == row[same]) {
                    same++;
                }
                if (same == n && name[a] == itsName) {
                    return a;
                }
            }
            return NONE;
        }

        /** Whether the atom holds whose terms are in row. */
        boolean holds(int shape) {
            return findIn(slotOfRow(shape >> 3, shape & 7), shape >> 3, shape & 7) != NONE;
        }

        /** Adds the atom whose terms are in row, if it doesn't hold; false if there is no room. */
        boolean add(int shape) {
            int itsName = shape >> 3;
            int itsSlot = slotOfRow(itsName, shape & 7);
            if (findIn(itsSlot, itsName, shape & 7) != NONE) {
                return true;
            }
            if (count == MAX_ATOMS) {
                return false;
            }
            name[count] = itsName;
            System.arraycopy(row, 0, arg, MAX_TERMS * count, shape & 7);
            slot[count] = itsSlot;
            link[count] = bucket[itsSlot];
            bucket[itsSlot] = count;
            later[count] = NONE;
            if (first[itsName] == NONE) {
                first[itsName] = count;
            } else {
                later[last[itsName]] = count;
            }
            last[itsName] = count;
            number[itsName]++;
            count++;
            return true;
        }
    }

    /** What has been found of a state: its terms, moves role by role, and goals, all in order. */
    private static final class Position {
        private final int[] term = new int[MAX_STATE_TERMS];
        private int count;
        private int seen = UNKNOWN;
        private final int[] move = new int[MAX_ATOMS];
        private final int[] moveStart = new int[MAX_ROLES + 1];
        private boolean over;
        private final int[] goal = new int[MAX_ROLES];

        int movesOf(int role) {
            return moveStart[role + 1] - moveStart[role];
        }

        /** How many joint moves there are. */
        long joint(int roles) {
            long all = roles == 0 ? 0 : 1;
            for (int r = 0; r < roles; r++) {
                all *= movesOf(r);
            }
            return all;
        }
    }

    /** Works out what holds. */
    private static final class Model {
        private static final int NO_LIMIT = MAX_ATOMS;

        private final Terms terms;
        private final Atoms atoms = new Atoms();
        private Sheet sheet;
        private final int[] value = new int[MAX_NODES];
        private final int[] bound = new int[MAX_VARIABLES];
        private final int[] trail = new int[MAX_VARIABLES];
        private int trailed;
        /** A condition that is held to one atom, and the atom; those ahead take only older ones. */
        private int pinned;
        private int pin;
        /** The rules that are worked out, by their places in the sheet's order. */
        private int begin;
        private int behind;
        /** The atoms that rules ahead of these have brought, and whether they are too great. */
        private int steady;
        private boolean hopeless;
        private boolean great;
        private long work;

        Model(Terms itsTerms) {
            terms = itsTerms;
            Arrays.fill(bound, NONE);
        }

        /** Takes a sheet, and brings for good what depends on no state. */
        void load(Sheet itsSheet) {
            sheet = itsSheet;
            terms.load(sheet.names);
            loadRoles();
            atoms.release(0);
            great = false;
            begin = 0;
            behind = sheet.steady;
            hopeless = !workOut();
            steady = atoms.count;
            terms.base = terms.top;
            begin = sheet.steady;
            behind = sheet.rules;
        }

        private void loadRoles() {
            for (int r = 0; r < sheet.rules; r++) {
                int head = sheet.firstPart[r];
                if (sheet.relation(head) == ROLE) {
                    terms.reserve(sheet.nodes);
                    fillRow(sheet.partNode[head], true);
                    terms.addRole(atoms.row[0]);
                }
            }
        }

        /** Drops all but what depends on no state. */
        void clear() {
            atoms.release(steady);
            great = hopeless;
        }

        void assumeState(int[] some, int from, int to) {
            clear();
            for (int k = from; k < to; k++) {
                atoms.row[0] = some[k];
                great = great || !atoms.add(TRUE << 3 | 1);
            }
        }

        /** Assumes the moves of a joint move, of which the last role's is counted on first. */
        void assumeMoves(Position position, int joint) {
            int rest = joint;
            for (int r = terms.roles - 1; r >= 0; r--) {
                int n = position.movesOf(r);
                atoms.row[0] = terms.role[r];
                atoms.row[1] = position.move[position.moveStart[r] + (n > 0 ? rest % n : 0)];
                great = great || !atoms.add(DOES << 3 | 2);
                rest = n > 0 ? rest / n : 0;
            }
        }

        /**
         * Works out all that holds with what has been assumed; false if it is too great. Of a group
         * the rules that need nothing of it go first; then each atom of its relations, the new ones
         * too, is taken in turn for the conditions that it fits.
         */
        boolean workOut() {
            int group = begin;
            int fresh = atoms.count;
            boolean again = false;
            for (int k = begin; k < behind && !great; k++) {
                if (sheet.recursive[sheet.order[k]]) {
                    again = true;
                } else {
                    run(sheet.order[k]);
                }
                if (sheet.endsGroup[k]) {
                    for (int a = fresh; again && a < MAX_ATOMS && a < atoms.count && !great; a++) {
                        for (int n = group; n <= k; n++) {
                            runWith(sheet.order[n], a);
                        }
                    }
                    group = k + 1;
                    fresh = atoms.count;
                    again = false;
                }
            }
            countWork();
            return !great;
        }

        private void countWork() {
            work = 0;
            for (int r = 0; r < sheet.rules && !great; r++) {
                int room = room(r);
                great = room > MAX_ROOM;
                work += room;
            }
        }

        /** The rooms of rules only grow, so one that is too great now makes all too great. */
        private int room(int rule) {
            int room = 1;
            for (int p = sheet.firstPart[rule] + 1; p < sheet.firstPart[rule + 1]; p++) {
                if (sheet.partKind[p] == Sheet.POSITIVE) {
                    room = Math.min(room * atoms.number[sheet.relation(p)], MAX_ROOM + 1);
                }
            }
            return room;
        }

        /** Brings what a rule brings whose conditions are all complete. */
        private void run(int rule) {
            int room = room(rule);
            great = great || room > MAX_ROOM;
            if (room > 0 && !great) {
                pinned = NONE;
                join(sheet.firstPart[rule] + 1, rule);
            }
        }

        /** Brings what a recursive rule brings with an atom and older ones. */
        private void runWith(int rule, int atom) {
            for (int p = sheet.firstPart[rule] + 1; p < sheet.firstPart[rule + 1]; p++) {
                if (sheet.partKind[p] != Sheet.POSITIVE || sheet.relation(p) != atoms.name[atom]) {
                    continue;
                }
                int room = room(rule);
                great = great || room > MAX_ROOM;
                if (room > 0 && !great) {
                    pinned = p;
                    pin = atom;
                    if (fits(sheet.partNode[p], atom)) {
                        join(sheet.firstPart[rule] + 1, rule);
                    }
                    undo(0);
                }
            }
        }

        /** Puts atoms in the place of a rule's positive conditions from part on, in every way. */
        private void join(int part, int rule) {
            int p = part;
            while (p < sheet.firstPart[rule + 1] && (sheet.partKind[p] != Sheet.POSITIVE || p == pinned)) {
                p++;
            }
            if (p == sheet.firstPart[rule + 1]) {
                if (isAllowed(rule)) {
                    bring(sheet.partNode[sheet.firstPart[rule]]);
                }
                return;
            }
            int limit = pinned == NONE ? NO_LIMIT : p < pinned ? pin - 1 : pin;
            int mark = trailed;
            for (int a = atoms.first[sheet.relation(p)]; a != NONE && a <= limit && !great; a = atoms.later[a]) {
                if (fits(sheet.partNode[p], a)) {
                    join(p + 1, rule);
                }
                undo(mark);
            }
        }

        private boolean fits(int node, int atom) {
            int child = node + 1;
            for (int k = 0; k < (sheet.shape[node] & 7); k++) {
                if (!matches(child, atoms.arg[MAX_TERMS * atom + k])) {
                    return false;
                }
                child = sheet.after[child];
            }
            return true;
        }

        /** Whether a node can be a term; binds the variables that it must bind for that. */
        private boolean matches(int node, int term) {
            int shape = sheet.shape[node];
            if (shape < 0) {
                if (bound[~shape] == NONE) {
                    bound[~shape] = term;
                    trail[trailed++] = ~shape;
                }
                return bound[~shape] == term;
            }
            if (terms.shape[term] != shape) {
                return false;
            }
            int child = node + 1;
            for (int k = 0; k < (shape & 7); k++) {
                if (!matches(child, terms.arg[MAX_TERMS * term + k])) {
                    return false;
                }
                child = sheet.after[child];
            }
            return true;
        }

        private void undo(int mark) {
            while (trailed > mark) {
                trailed--;
                bound[trail[trailed]] = NONE;
            }
        }

        /** Whether the conditions of a rule hold that aren't positive. */
        private boolean isAllowed(int rule) {
            for (int p = sheet.firstPart[rule] + 1; p < sheet.firstPart[rule + 1]; p++) {
                int node = sheet.partNode[p];
                if (sheet.partKind[p] == Sheet.NEGATIVE) {
                    if (fillRow(node, false) && atoms.holds(sheet.shape[node])) {
                        return false;
                    }
                } else if (sheet.partKind[p] == Sheet.UNLIKE && areAlike(node, sheet.after[node])) {
                    return false;
                }
            }
            return true;
        }

        /** Whether two nodes are the same term; no term is made for that, as it needn't be kept. */
        private boolean areAlike(int a, int b) {
            int ofA = sheet.shape[a];
            int ofB = sheet.shape[b];
            if (ofA < 0 || ofB < 0) {
                return ofA < 0 ? matches(b, bound[~ofA]) : matches(a, bound[~ofB]);
            }
            if (ofA != ofB) {
                return false;
            }
            int fromA = a + 1;
            int fromB = b + 1;
            for (int k = 0; k < (ofA & 7); k++) {
                if (!areAlike(fromA, fromB)) {
                    return false;
                }
                fromA = sheet.after[fromA];
                fromB = sheet.after[fromB];
            }
            return true;
        }

        /** Brings the atom of a node. */
        private void bring(int node) {
            int shape = sheet.shape[node];
            terms.reserve(sheet.after[node] - node);
            fillRow(node, true);
            for (int k = 0; k < (shape & 7); k++) {
                great = great || terms.size[atoms.row[k]] > MAX_TERM_SIGNS;
            }
            great = great || !atoms.add(shape);
        }

        /**
         * Fills the row of an atom's terms, from the last node back, so that a node's own terms are
         * there ahead of it; false if one isn't known, and none is to be added.
         */
        private boolean fillRow(int node, boolean add) {
            for (int k = sheet.after[node] - 1; k > node; k--) {
                int shape = sheet.shape[k];
                if (shape < 0) {
                    value[k] = bound[~shape];
                } else if ((shape & 7) == 0) {
                    value[k] = shape >> 3;
                } else {
                    takeValues(k, terms.row);
                    value[k] = terms.intern(shape, add);
                }
                if (value[k] == NONE) {
                    return false;
                }
            }
            takeValues(node, atoms.row);
            return true;
        }

        private void takeValues(int node, int[] row) {
            int child = node + 1;
            for (int k = 0; k < (sheet.shape[node] & 7); k++) {
                row[k] = value[child];
                child = sheet.after[child];
            }
        }

        /** Tells the state that init or next makes; false if it has too many terms. */
        boolean tellState(int relation, Position position) {
            if (atoms.number[relation] > MAX_STATE_TERMS) {
                return false;
            }
            position.count = 0;
            for (int a = atoms.first[relation]; a != NONE; a = atoms.later[a]) {
                terms.insert(position.term, 0, position.count, atoms.arg[MAX_TERMS * a]);
                position.count++;
            }
            return true;
        }

        void tellMoves(Position position) {
            position.over = atoms.number[TERMINAL] > 0;
            position.moveStart[0] = 0;
            for (int r = 0; r < terms.roles; r++) {
                int from = position.moveStart[r];
                int n = 0;
                for (int a = atoms.first[LEGAL]; a != NONE; a = atoms.later[a]) {
                    if (atoms.arg[MAX_TERMS * a] == terms.role[r]) {
                        terms.insert(position.move, from, n, atoms.arg[MAX_TERMS * a + 1]);
                        n++;
                    }
                }
                position.moveStart[r + 1] = from + n;
                position.goal[r] = goalOf(terms.role[r]);
            }
        }

        private int goalOf(int role) {
            int found = NONE;
            for (int a = atoms.first[GOAL]; a != NONE; a = atoms.later[a]) {
                int term = atoms.arg[MAX_TERMS * a + 1];
                if (atoms.arg[MAX_TERMS * a] == role && term < sheet.names.count) {
                    int number = sheet.names.number(term);
                    if (number != NONE) {
                        found = found == NONE || found == number ? number : SEVERAL;
                    }
                }
                if (found == SEVERAL) {
                    return SEVERAL;
                }
            }
            return found;
        }
    }

    /** All states of a sheet, with what has been found of each. */
    private static final class Search {
        private static final int WORDS_PER_STATE = (MAX_STATES + 63) / 64;

        private final Terms terms;
        private final Model model;
        private final int[] term = new int[MAX_STATES * MAX_STATE_TERMS];
        private final int[] rowStart = new int[MAX_STATES + 1];
        private final int[] fingerprint = new int[MAX_STATES];
        private final boolean[] over = new boolean[MAX_STATES];
        private final int[] joint = new int[MAX_STATES];
        private final int[] follower = new int[MAX_STATES * MAX_JOINT];
        private final byte[] flaw = new byte[MAX_STATES];
        private final boolean[] secondChooses = new boolean[MAX_STATES];
        private final int[] worth = new int[MAX_STATES];
        private final int[] choice = new int[MAX_STATES];
        private final long[] reached = new long[MAX_STATES * WORDS_PER_STATE];
        private int count;
        private long work;
        private boolean great;
        private int worst;
        private int worstState;

        Search(Terms itsTerms, Model itsModel) {
            terms = itsTerms;
            model = itsModel;
        }

        /** Begins with the initial state alone. */
        void open(Position position) {
            count = 0;
            work = 0;
            int mark = terms.top;
            model.clear();
            great = !model.workOut() || isTooMuch() || !model.tellState(INIT, position);
            if (!great) {
                number(position, mark);
            }
        }

        /** Counts the work that has just been done, and tells whether it is too much in all. */
        private boolean isTooMuch() {
            work += model.work;
            return work > MAX_WORK;
        }

        /** The number of a state that has just been told; NONE if there are too many. */
        private int number(Position position, int mark) {
            int its = fingerprintOf(position);
            for (int n = 0; n < count; n++) {
                if (fingerprint[n] == its && isRow(n, position)) {
                    terms.release(mark);
                    return n;
                }
            }
            if (count == MAX_STATES) {
                return NONE;
            }
            terms.keep(position.term, 0, position.count, mark);
            System.arraycopy(position.term, 0, term, rowStart[count], position.count);
            rowStart[count + 1] = rowStart[count] + position.count;
            fingerprint[count] = its;
            return count++;
        }

        private int fingerprintOf(Position position) {
            int its = position.count;
            for (int k = 0; k < position.count; k++) {
                its = its * 31 + terms.fingerprint[position.term[k]];
            }
            return its;
        }

        private boolean isRow(int n, Position position) {
            if (rowStart[n + 1] - rowStart[n] != position.count) {
                return false;
            }
            for (int k = 0; k < position.count; k++) {
                if (term[rowStart[n] + k] != position.term[k]) {
                    return false;
                }
            }
            return true;
        }

        /** Finds all that is asked of a state alone; its moves are left in the position. */
        void look(int n, Position position) {
            int mark = terms.top;
            model.assumeState(term, rowStart[n], rowStart[n + 1]);
            great = !model.workOut() || isTooMuch();
            if (!great) {
                model.tellMoves(position);
                terms.keep(position.move, 0, position.moveStart[terms.roles], mark);
                describe(n, position);
            }
        }

        private void describe(int n, Position position) {
            over[n] = position.over;
            long all = position.over ? 0 : position.joint(terms.roles);
            great = all > MAX_JOINT;
            joint[n] = (int) Math.min(all, MAX_JOINT);
            if (terms.roles == 2) {
                flaw[n] = (byte) flawOf(position);
                secondChooses[n] = position.movesOf(1) > 1;
                worth[n] = position.over ? position.goal[0] : NONE;
            }
        }

        private static int flawOf(Position position) {
            if (position.over) {
                if (position.goal[0] < 0 || position.goal[1] < 0) {
                    return 4;
                }
                return position.goal[0] + position.goal[1] == MAX_GOAL ? 0 : 5;
            }
            if (position.movesOf(0) == 0 || position.movesOf(1) == 0) {
                return 2;
            }
            return position.movesOf(0) > 1 && position.movesOf(1) > 1 ? 3 : 0;
        }

        /** Finds the state that comes by a joint move of the moves in the position. */
        void follow(int n, int j, Position position) {
            int mark = terms.top;
            model.assumeState(term, rowStart[n], rowStart[n + 1]);
            model.assumeMoves(position, j);
            great = !model.workOut() || isTooMuch() || !model.tellState(NEXT, position);
            if (!great) {
                int to = number(position, mark);
                great = to == NONE;
                follower[n * MAX_JOINT + j] = to;
            }
        }

        /** Drops all terms from mark on but those of the states from first on. */
        void keepRows(int first, int mark) {
            terms.keep(term, rowStart[first], rowStart[count], mark);
        }

        /** Finds the first defect, and the values if there is none. */
        void judge() {
            if (great) {
                return;
            }
            worst = terms.roles == 2 ? 0 : 1;
            worstState = NONE;
            for (int n = 0; n < count && worst == 0; n++) {
                if (flaw[n] != 0) {
                    worst = flaw[n];
                    worstState = n;
                }
            }
            if (worst == 0) {
                worstState = leastInCircle();
                worst = worstState == NONE ? 0 : 6;
            }
            if (worst == 0) {
                findValues();
            }
        }

        private int leastInCircle() {
            Arrays.fill(reached, 0);
            for (int n = 0; n < count; n++) {
                for (int j = 0; j < joint[n]; j++) {
                    int to = follower[n * MAX_JOINT + j];
                    reached[n * WORDS_PER_STATE + (to >> 6)] |= 1L << to;
                }
            }
            for (int by = 0; by < count; by++) {
                for (int n = 0; n < count; n++) {
                    if (reaches(n, by)) {
                        reachAllOf(n, by);
                    }
                }
            }
            for (int n = 0; n < count; n++) {
                if (reaches(n, n)) {
                    return n;
                }
            }
            return NONE;
        }

        private boolean reaches(int n, int to) {
            return (reached[n * WORDS_PER_STATE + (to >> 6)] >> to & 1) != 0;
        }

        private void reachAllOf(int n, int by) {
            for (int w = 0; w < WORDS_PER_STATE; w++) {
                reached[n * WORDS_PER_STATE + w] |= reached[by * WORDS_PER_STATE + w];
            }
        }

        /** Without a circle, each pass finds the value of one more state at least. */
        private void findValues() {
            int left = 0;
            for (int n = 0; n < count; n++) {
                choice[n] = NONE;
                left += over[n] ? 0 : 1;
            }
            for (int pass = 0; pass < MAX_STATES && left > 0; pass++) {
                for (int n = count - 1; n >= 0; n--) {
                    if (worth[n] == NONE && choose(n)) {
                        left--;
                    }
                }
            }
        }

        /** Finds the best joint move of a state, if the values of all that come are known. */
        private boolean choose(int n) {
            int found = NONE;
            for (int j = 0; j < joint[n]; j++) {
                int its = worth[follower[n * MAX_JOINT + j]];
                if (its == NONE) {
                    return false;
                }
                if (found == NONE || (secondChooses[n] ? its < worthBy(n, found) : its > worthBy(n, found))) {
                    found = j;
                }
            }
            if (found == NONE) {
                return false;
            }
            choice[n] = found;
            worth[n] = worthBy(n, found);
            return true;
        }

        private int worthBy(int n, int j) {
            return worth[follower[n * MAX_JOINT + j]];
        }
    }
}
