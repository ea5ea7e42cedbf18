import java.util.Arrays;

/**
 * A bill posting house: boards sold by fortnights to campaigns whose contracts are texts.
 * The numbered promises of the document say what each call answers; the words in the names
 * below (board, clause, want, bar, given, known) are the document's.
 */
public final class PasteHouse {
    public static final int NONE = -1;

    private static final int FULL = -2;
    private static final int MAX_BOARDS = 9;
    private static final int DISTRICTS = 6;
    private static final int FORTNIGHTS = 26;
    private static final int DAYS = 14;
    private static final int MAX_FACTS = 300;
    private static final int MAX_BYTES = 3000;
    private static final int MAX_TOKENS = 600;
    private static final int MAX_CAMPAIGNS = 8;
    private static final int MAX_CLAUSES = 40;
    private static final int MAX_DEPTH = 6;
    private static final int MAX_IN_FORCE = 4;
    private static final int FIRST_DAY_ASKED = 20;

    private final Boards boards;
    private final Facts facts;
    private final Tape tape;
    private final Parser parser;
    private final Givings givings;
    private final Judge judge;
    private final Course course;
    private final Planner planner;
    private Contracts contracts;
    // A text is read into the spare ones, so that a fault leaves those in force untouched.
    private Contracts spare;
    private int faultPlace;

    public PasteHouse() {
        boards = new Boards();
        facts = new Facts();
        tape = new Tape();
        parser = new Parser(tape);
        givings = new Givings();
        judge = new Judge();
        course = new Course();
        planner = new Planner(boards, facts, judge);
        contracts = new Contracts();
        spare = new Contracts();
        faultPlace = NONE;
    }

    public int feed(int a, int b, int c, int d, int e) {
        if (!tape.hasRoomFor(5 * Tape.BYTES_OF_INT)) {
            return NONE;
        }
        tape.append(a);
        tape.append(b);
        tape.append(c);
        tape.append(d);
        tape.append(e);
        return tape.length();
    }

    public int back(int n) {
        return tape.drop(n) ? tape.length() : NONE;
    }

    public int read() {
        int fault = parser.parse(spare);
        faultPlace = fault == 0 ? NONE : parser.faultPlace();
        if (fault == 0) {
            Contracts old = contracts;
            contracts = spare;
            spare = old;
            givings.clear();
        }
        tape.clear();
        return fault;
    }

    public int place() {
        return faultPlace;
    }

    public int board(int district, int quality, int audience, int marks, boolean beside) {
        return boards.add(district, quality, audience, marks, beside);
    }

    public boolean pace(int district, int v) {
        return boards.setPace(district, v);
    }

    public int fact(int kind, int board, int fortnight, int day) {
        return boards.has(board) ? facts.add(kind, board, fortnight, day) : NONE;
    }

    public int give(int fortnight, int n) {
        if (!isFortnight(fortnight) || !facts.areKnown(n)) {
            return NONE;
        }
        if (contracts.inForceIn(fortnight) > MAX_IN_FORCE) {
            return FULL;
        }
        planner.plan(contracts, fortnight, n, null);
        takeOver(fortnight);
        return worthGiven(fortnight);
    }

    public int mend(int fortnight, int n) {
        if (!givings.isMade(fortnight) || !facts.areKnown(n)) {
            return NONE;
        }
        if (contracts.inForceIn(fortnight) > MAX_IN_FORCE) {
            return FULL;
        }
        planner.plan(contracts, fortnight, n, givings);
        int moved = movedBy(fortnight, n);
        takeOver(fortnight);
        return moved;
    }

    public int given(int board, int fortnight, int what) {
        if (!boards.has(board) || !givings.isMade(fortnight)) {
            return NONE;
        }
        int clause = givings.clauseOf(board, fortnight);
        switch (what) {
            case 0:
                return clause;
            case 1:
                return contracts.ownerOf(clause);
            case 2:
                return contracts.worthOf(clause);
            case 3:
                return dueOf(board, fortnight);
            default:
                return NONE;
        }
    }

    public int may(int board, int campaign) {
        if (!boards.has(board) || !contracts.hasCampaign(campaign)) {
            return NONE;
        }
        return firstBar(board, campaign) == NONE ? 1 : 0;
    }

    public int bar(int board, int campaign) {
        if (!boards.has(board) || !contracts.hasCampaign(campaign)) {
            return NONE;
        }
        return firstBar(board, campaign);
    }

    public int lacks(int campaign, int fortnight, int district) {
        if (!contracts.isInForce(campaign, fortnight) || !givings.isMade(fortnight)
                || !Boards.isDistrict(district)) {
            return NONE;
        }
        int want = contracts.wantOf(campaign, district);
        return want == NONE ? 0 : contracts.amountOf(want) - givings.boardsOf(want, fortnight);
    }

    public int state(int board, int fortnight, int n, int what) {
        if (!boards.has(board) || !isFortnight(fortnight) || !facts.areKnown(n)) {
            return NONE;
        }
        course.follow(facts, board, fortnight, n);
        switch (what) {
            case 0:
                return course.daysOf(Course.SHOWN);
            case 1:
                return course.daysOf(Course.UNSEEN);
            case 2:
                return lateOf(board, fortnight);
            case 3:
                return facts.isLost(board, fortnight, n) ? 1 : 0;
            default:
                return what < FIRST_DAY_ASKED ? NONE : course.lookOn(what - FIRST_DAY_ASKED);
        }
    }

    public int refund(int campaign, int fortnight, int n) {
        if (!contracts.hasCampaign(campaign) || !givings.isMade(fortnight) || !facts.areKnown(n)) {
            return NONE;
        }
        int sum = 0;
        for (int board = 0; board < boards.size(); board++) {
            int clause = givings.clauseOf(board, fortnight);
            if (contracts.ownerOf(clause) == campaign) {
                int percent = contracts.amountOf(groundOf(board, fortnight, n));
                sum += contracts.worthOf(clause) * percent / 100;
            }
        }
        return sum;
    }

    public int ground(int board, int fortnight, int n) {
        if (!boards.has(board) || !givings.isMade(fortnight) || !facts.areKnown(n)) {
            return NONE;
        }
        return groundOf(board, fortnight, n);
    }

    public int reach(int campaign, int fortnight, int n) {
        if (!contracts.hasCampaign(campaign) || !givings.isMade(fortnight) || !facts.areKnown(n)) {
            return NONE;
        }
        int sum = 0;
        for (int district = 0; district < DISTRICTS; district++) {
            int want = contracts.wantOf(campaign, district);
            sum += want == NONE ? 0 : greatestAudience(want, fortnight, n);
        }
        return sum;
    }

    public int count(int what) {
        switch (what) {
            case 0:
                return boards.size();
            case 1:
                return facts.size();
            case 2:
                return contracts.campaigns();
            case 3:
                return contracts.clauses();
            case 4:
                return givings.fortnightsMade();
            case 5:
                return tape.length();
            default:
                return NONE;
        }
    }

    private static boolean isFortnight(int fortnight) {
        return fortnight >= 0 && fortnight < FORTNIGHTS;
    }

    private void takeOver(int fortnight) {
        for (int board = 0; board < MAX_BOARDS; board++) {
            givings.set(board, fortnight, board < boards.size() ? planner.clauseFor(board) : NONE);
        }
        givings.setMade(fortnight);
    }

    private int worthGiven(int fortnight) {
        int sum = 0;
        for (int board = 0; board < boards.size(); board++) {
            sum += contracts.worthOf(givings.clauseOf(board, fortnight));
        }
        return sum;
    }

    private int movedBy(int fortnight, int n) {
        int moved = 0;
        for (int board = 0; board < boards.size(); board++) {
            boolean otherwise = planner.clauseFor(board) != givings.clauseOf(board, fortnight);
            if (otherwise && !facts.isLost(board, fortnight, n)) {
                moved++;
            }
        }
        return moved;
    }

    private int firstBar(int board, int campaign) {
        judge.regard(boards, board);
        return judge.firstHolding(contracts, Kind.BAR, campaign);
    }

    private int dueOf(int board, int fortnight) {
        if (givings.clauseOf(board, fortnight) == NONE) {
            return NONE;
        }
        int district = boards.districtOf(board);
        int ahead = 0;
        for (int other = 0; other < board; other++) {
            if (boards.districtOf(other) == district && givings.clauseOf(other, fortnight) != NONE) {
                ahead++;
            }
        }
        int pace = boards.paceOf(district);
        return pace > 0 ? ahead / pace : ahead;
    }

    /** Late as the course tells that was followed last. */
    private int lateOf(int board, int fortnight) {
        int due = dueOf(board, fortnight);
        return due == NONE ? 0 : Math.max(0, course.firstHung() - due);
    }

    private int groundOf(int board, int fortnight, int n) {
        int campaign = contracts.ownerOf(givings.clauseOf(board, fortnight));
        if (campaign == NONE) {
            return NONE;
        }
        course.follow(facts, board, fortnight, n);
        judge.regard(boards, board);
        judge.regardCourse(course, lateOf(board, fortnight));
        return judge.firstHolding(contracts, Kind.REFUND, campaign);
    }

    /** A campaign has one want of a district at most, so a want's boards are all it has there. */
    private int greatestAudience(int want, int fortnight, int n) {
        int greatest = 0;
        for (int board = 0; board < boards.size(); board++) {
            if (givings.clauseOf(board, fortnight) == want) {
                course.follow(facts, board, fortnight, n);
                if (course.daysOf(Course.SHOWN) > 0) {
                    greatest = Math.max(greatest, boards.audienceOf(board));
                }
            }
        }
        return greatest;
    }

    /** The kinds of tokens; words stand in the order of Tokens.WORDS. */
    private static final class Kind {
        static final int NO_TOKEN = 0;
        static final int TEXT_END = 1;
        static final int NAME = 2;
        static final int INT = 3;
        static final int SEMICOLON = 4;
        static final int OPEN = 5;
        static final int CLOSE = 6;
        static final int PLUS = 7;
        static final int MINUS = 8;
        static final int TIMES = 9;
        static final int EQUAL = 10;
        static final int UNEQUAL = 11;
        static final int BELOW = 12;
        static final int AT_MOST = 13;
        static final int CAMPAIGN = 14;
        static final int FROM = 15;
        static final int UNTIL = 16;
        static final int END = 17;
        static final int WANT = 18;
        static final int IN = 19;
        static final int WORTH = 20;
        static final int BAR = 21;
        static final int BESIDE = 22;
        static final int REFUND = 23;
        static final int IF = 24;
        static final int OR = 25;
        static final int AND = 26;
        static final int NEAR = 27;
        static final int DISTRICT = 28;
        static final int QUALITY = 29;
        static final int AUDIENCE = 30;
        static final int SHOWN = 31;
        static final int UNSEEN = 32;
        static final int LATE = 33;

        static final int RANK_OF_SUM = 4;
        static final int RANK_OF_COMPARISON = 3;

        /** How tightly an operator binds; 0 of what is none. */
        static int rankOf(int kind) {
            switch (kind) {
                case TIMES:
                    return 5;
                case PLUS:
                case MINUS:
                    return RANK_OF_SUM;
                case EQUAL:
                case UNEQUAL:
                case BELOW:
                case AT_MOST:
                    return RANK_OF_COMPARISON;
                case AND:
                    return 2;
                case OR:
                    return 1;
                default:
                    return 0;
            }
        }

        static boolean isVariable(int kind) {
            return kind >= DISTRICT && kind <= LATE;
        }
    }

    /** The bytes fed and not yet read. */
    private static final class Tape {
        static final int BYTES_OF_INT = 4;
        static final int NO_BYTE = -1;

        private final byte[] bytes = new byte[MAX_BYTES];
        private int length;

        int length() {
            return length;
        }

        boolean hasRoomFor(int more) {
            return more <= MAX_BYTES - length;
        }

        void append(int four) {
            for (int shift = 24; shift >= 0; shift -= 8) {
                if (length >= 0 && length < bytes.length) {
                    bytes[length] = (byte) (four >>> shift);
                    length++;
                }
            }
        }

        boolean drop(int n) {
            if (n < 0 || n > length) {
                return false;
            }
            length -= n;
            return true;
        }

        void clear() {
            length = 0;
        }

        int byteAt(int at) {
            return at >= 0 && at < length && at < bytes.length ? bytes[at] & 255 : NO_BYTE;
        }
    }

    /** Cuts the tape into tokens, one at a time. */
    private static final class Tokens {
        private static final int LONGEST_NAME = 8;
        private static final int LONGEST_INT = 4;
        private static final String WORDS =
                "campaignfrom    until   end     want    in      worth   bar     beside  refund  if      or      and     near    districtquality audienceshown   unseen  late    ";

        private final Tape tape;
        private int next;
        private int kind;
        private int start;
        private int number;
        private long name;

        Tokens(Tape tape) {
            this.tape = tape;
        }

        void rewind() {
            next = 0;
        }

        int kind() {
            return kind;
        }

        int start() {
            return start;
        }

        int number() {
            return number;
        }

        /** The letters as digits to the base 27: alike for like names alone. */
        long name() {
            return name;
        }

        void advance() {
            for (int i = 0; i < MAX_BYTES && isBlank(tape.byteAt(next)); i++) {
                next++;
            }
            start = next;
            int first = tape.byteAt(next);
            if (first == Tape.NO_BYTE) {
                kind = Kind.TEXT_END;
            } else if (isLetter(first)) {
                scanWord();
            } else if (isDigit(first)) {
                scanInt();
            } else {
                scanSign(first);
            }
        }

        private static boolean isBlank(int c) {
            return c == 9 || c == 10 || c == 13 || c == 32;
        }

        private static boolean isLetter(int c) {
            return c >= 'a' && c <= 'z';
        }

        private static boolean isDigit(int c) {
            return c >= '0' && c <= '9';
        }

        private void scanWord() {
            int length = 0;
            name = 0;
            for (int i = 0; i <= LONGEST_NAME && isLetter(tape.byteAt(next)); i++) {
                name = name * 27 + (tape.byteAt(next) - 'a' + 1);
                next++;
                length++;
            }
            kind = length > LONGEST_NAME ? Kind.NO_TOKEN : kindOfWord(length);
        }

        private int kindOfWord(int length) {
            for (int at = 0; at + LONGEST_NAME <= WORDS.length(); at += LONGEST_NAME) {
                if (isWord(at, length)) {
                    return Kind.CAMPAIGN + at / LONGEST_NAME;
                }
            }
            return Kind.NAME;
        }

        private boolean isWord(int at, int length) {
            for (int i = 0; i < LONGEST_NAME && at + i < WORDS.length(); i++) {
                int c = i < length ? tape.byteAt(start + i) : ' ';
                if (WORDS.charAt(at + i) != c) {
                    return false;
                }
            }
            return true;
        }

        private void scanInt() {
            int length = 0;
            number = 0;
            for (int i = 0; i <= LONGEST_INT && isDigit(tape.byteAt(next)); i++) {
                number = number * 10 + (tape.byteAt(next) - '0');
                next++;
                length++;
            }
            kind = length > LONGEST_INT ? Kind.NO_TOKEN : Kind.INT;
        }

        private void scanSign(int first) {
            next++;
            boolean doubled = tape.byteAt(next) == '=';
            kind = kindOfSign(first, doubled);
            if (kind >= Kind.EQUAL && kind != Kind.BELOW) {
                next++;
            }
        }

        private static int kindOfSign(int first, boolean doubled) {
            switch (first) {
                case ';':
                    return Kind.SEMICOLON;
                case '(':
                    return Kind.OPEN;
                case ')':
                    return Kind.CLOSE;
                case '+':
                    return Kind.PLUS;
                case '-':
                    return Kind.MINUS;
                case '*':
                    return Kind.TIMES;
                case '=':
                    return doubled ? Kind.EQUAL : Kind.NO_TOKEN;
                case '!':
                    return doubled ? Kind.UNEQUAL : Kind.NO_TOKEN;
                case '<':
                    return doubled ? Kind.AT_MOST : Kind.BELOW;
                default:
                    return Kind.NO_TOKEN;
            }
        }
    }

    /** What a text without a fault says: its campaigns, its clauses, its conditions as postfix code. */
    private static final class Contracts {
        private static final int NUMBERS = 10000;

        private final int[] from = new int[MAX_CAMPAIGNS];
        private final int[] until = new int[MAX_CAMPAIGNS];
        private final boolean[] apart = new boolean[MAX_CAMPAIGNS * MAX_CAMPAIGNS];
        private final int[] kind = new int[MAX_CLAUSES];
        private final int[] owner = new int[MAX_CLAUSES];
        private final int[] amount = new int[MAX_CLAUSES];
        private final int[] district = new int[MAX_CLAUSES];
        private final int[] worth = new int[MAX_CLAUSES];
        private final int[] codeStart = new int[MAX_CLAUSES];
        private final int[] codeEnd = new int[MAX_CLAUSES];
        private final int[] code = new int[MAX_TOKENS];
        private int campaigns;
        private int clauses;
        private int codeLength;

        void clear() {
            campaigns = 0;
            clauses = 0;
            codeLength = 0;
            for (int i = 0; i < apart.length; i++) {
                apart[i] = false;
            }
        }

        int campaigns() {
            return campaigns;
        }

        int clauses() {
            return clauses;
        }

        boolean hasCampaign(int campaign) {
            return campaign >= 0 && campaign < campaigns && campaign < MAX_CAMPAIGNS;
        }

        private boolean hasClause(int clause) {
            return clause >= 0 && clause < clauses && clause < MAX_CLAUSES;
        }

        boolean addCampaign() {
            if (campaigns < 0 || campaigns >= MAX_CAMPAIGNS) {
                return false;
            }
            from[campaigns] = 0;
            until[campaigns] = 0;
            campaigns++;
            return true;
        }

        boolean addClause(int newKind) {
            if (clauses < 0 || clauses >= MAX_CLAUSES) {
                return false;
            }
            kind[clauses] = newKind;
            owner[clauses] = campaigns - 1;
            amount[clauses] = 0;
            district[clauses] = NONE;
            worth[clauses] = 0;
            codeStart[clauses] = codeLength;
            codeEnd[clauses] = codeLength;
            clauses++;
            return true;
        }

        void setFrom(int fortnight) {
            if (hasCampaign(campaigns - 1)) {
                from[campaigns - 1] = fortnight;
            }
        }

        void setUntil(int fortnight) {
            if (hasCampaign(campaigns - 1)) {
                until[campaigns - 1] = fortnight;
            }
        }

        void setAmount(int value) {
            if (hasClause(clauses - 1)) {
                amount[clauses - 1] = value;
            }
        }

        void setDistrict(int value) {
            if (hasClause(clauses - 1)) {
                district[clauses - 1] = value;
            }
        }

        void setWorth(int value) {
            if (hasClause(clauses - 1)) {
                worth[clauses - 1] = value;
            }
        }

        void addCode(int tokenKind, int number) {
            if (codeLength >= 0 && codeLength < code.length && hasClause(clauses - 1)) {
                code[codeLength] = tokenKind * NUMBERS + number;
                codeLength++;
                codeEnd[clauses - 1] = codeLength;
            }
        }

        void setApart(int one, int other) {
            if (hasCampaign(one) && hasCampaign(other)) {
                apart[one * MAX_CAMPAIGNS + other] = true;
                apart[other * MAX_CAMPAIGNS + one] = true;
            }
        }

        boolean areApart(int one, int other) {
            return hasCampaign(one) && hasCampaign(other) && apart[one * MAX_CAMPAIGNS + other];
        }

        int firstOf(int campaign) {
            return hasCampaign(campaign) ? from[campaign] : NONE;
        }

        boolean isInForce(int campaign, int fortnight) {
            return hasCampaign(campaign) && fortnight >= from[campaign] && fortnight < until[campaign];
        }

        int inForceIn(int fortnight) {
            int sum = 0;
            for (int campaign = 0; campaign < campaigns; campaign++) {
                if (isInForce(campaign, fortnight)) {
                    sum++;
                }
            }
            return sum;
        }

        int kindOf(int clause) {
            return hasClause(clause) ? kind[clause] : Kind.NO_TOKEN;
        }

        int ownerOf(int clause) {
            return hasClause(clause) ? owner[clause] : NONE;
        }

        int amountOf(int clause) {
            return hasClause(clause) ? amount[clause] : 0;
        }

        int districtOf(int clause) {
            return hasClause(clause) ? district[clause] : NONE;
        }

        int worthOf(int clause) {
            return hasClause(clause) ? worth[clause] : 0;
        }

        int wantOf(int campaign, int wanted) {
            for (int clause = 0; clause < clauses; clause++) {
                if (kindOf(clause) == Kind.WANT && ownerOf(clause) == campaign
                        && districtOf(clause) == wanted) {
                    return clause;
                }
            }
            return NONE;
        }

        int codeStartOf(int clause) {
            return hasClause(clause) ? codeStart[clause] : 0;
        }

        int codeEndOf(int clause) {
            return hasClause(clause) ? codeEnd[clause] : 0;
        }

        int codeKindAt(int at) {
            return at >= 0 && at < code.length ? code[at] / NUMBERS : Kind.NO_TOKEN;
        }

        int codeNumberAt(int at) {
            return at >= 0 && at < code.length ? code[at] % NUMBERS : 0;
        }
    }

    /** Reads a text token by token; what may come next is the parser's state. */
    private static final class Parser {
        private static final int SYNTAX = 1;
        private static final int ROOM = 2;
        private static final int TWICE = 3;
        private static final int UNKNOWN_NAME = 4;
        private static final int WRONG = 5;

        private static final int NOWHERE = -1;
        private static final int DONE = 0;
        private static final int AT_CAMPAIGN = 1;
        private static final int AT_NAME = 2;
        private static final int AT_FROM = 3;
        private static final int AT_FIRST = 4;
        private static final int AT_UNTIL = 5;
        private static final int AT_LAST = 6;
        private static final int AT_SEMICOLON = 7;
        private static final int AT_CLAUSE = 8;
        private static final int AT_AMOUNT = 9;
        private static final int AT_IN = 10;
        private static final int AT_DISTRICT = 11;
        private static final int AT_WORTH = 12;
        private static final int AT_PRICE = 13;
        private static final int AT_RIVAL = 14;
        private static final int AT_PERCENT = 15;
        private static final int AT_IF = 16;
        private static final int AT_LITERAL = 17;
        private static final int AT_MARK = 18;
        private static final int BEHIND_MARK = 19;
        private static final int AT_UNIT = 20;
        private static final int BEHIND_UNIT = 21;

        private final Tokens tokens;
        private final long[] names = new long[MAX_CAMPAIGNS];
        private final long[] rivals = new long[MAX_CLAUSES];
        private final int[] rivalPlaces = new int[MAX_CLAUSES];
        // Operators whose right side is not read yet: a rank has one at most, so five a level of brackets.
        private final int[] waiting = new int[5 * (MAX_DEPTH + 1)];
        private int waitingSize;
        private int depth;
        private boolean isRightSide;
        private int state;
        private Contracts contracts;
        private int fault;
        private int faultPlace;

        Parser(Tape tape) {
            tokens = new Tokens(tape);
        }

        int faultPlace() {
            return faultPlace;
        }

        /** The number of the text's fault, 0 without one; then the contracts hold what it says. */
        int parse(Contracts target) {
            begin(target);
            for (int ahead = 0; ahead <= MAX_TOKENS && state > DONE; ahead++) {
                tokens.advance();
                int kind = tokens.kind();
                int follows = follow(kind);
                if (follows == NOWHERE) {
                    stop(SYNTAX);
                } else if (follows != DONE && (ahead == MAX_TOKENS || lacksRoomFor(kind))) {
                    stop(ROOM);
                } else {
                    note(kind);
                    state = follows;
                }
            }
            if (state == DONE) {
                settleRivals();
            }
            return fault;
        }

        private void begin(Contracts target) {
            contracts = target;
            contracts.clear();
            tokens.rewind();
            state = AT_CAMPAIGN;
            waitingSize = 0;
            depth = 0;
            isRightSide = false;
            fault = 0;
            faultPlace = NONE;
        }

        /** Nothing that was noted so far counts beside a fault of the text's form. */
        private void stop(int number) {
            fault = number;
            faultPlace = tokens.start();
            state = NOWHERE;
        }

        private void blame(int number, int at) {
            if (fault == 0 || at < faultPlace || (at == faultPlace && number < fault)) {
                fault = number;
                faultPlace = at;
            }
        }

        private void blameIf(boolean isSo, int number) {
            if (isSo) {
                blame(number, tokens.start());
            }
        }

        private static int step(int kind, int needed, int next) {
            return kind == needed ? next : NOWHERE;
        }

        private int follow(int kind) {
            switch (state) {
                case AT_CAMPAIGN:
                    return kind == Kind.TEXT_END ? DONE : step(kind, Kind.CAMPAIGN, AT_NAME);
                case AT_NAME:
                    return step(kind, Kind.NAME, AT_FROM);
                case AT_FROM:
                    return step(kind, Kind.FROM, AT_FIRST);
                case AT_FIRST:
                    return step(kind, Kind.INT, AT_UNTIL);
                case AT_UNTIL:
                    return step(kind, Kind.UNTIL, AT_LAST);
                case AT_LAST:
                case AT_PRICE:
                    return step(kind, Kind.INT, AT_SEMICOLON);
                case AT_SEMICOLON:
                    return step(kind, Kind.SEMICOLON, AT_CLAUSE);
                case AT_CLAUSE:
                    return followInCampaign(kind);
                case AT_AMOUNT:
                    return step(kind, Kind.INT, AT_IN);
                case AT_IN:
                    return step(kind, Kind.IN, AT_DISTRICT);
                case AT_DISTRICT:
                    return step(kind, Kind.INT, AT_WORTH);
                case AT_WORTH:
                    return step(kind, Kind.WORTH, AT_PRICE);
                case AT_RIVAL:
                    return step(kind, Kind.NAME, AT_SEMICOLON);
                case AT_PERCENT:
                    return step(kind, Kind.INT, AT_IF);
                case AT_IF:
                    return step(kind, Kind.IF, AT_LITERAL);
                default:
                    return followInCondition(kind);
            }
        }

        private static int followInCampaign(int kind) {
            switch (kind) {
                case Kind.WANT:
                    return AT_AMOUNT;
                case Kind.BAR:
                    return AT_LITERAL;
                case Kind.BESIDE:
                    return AT_RIVAL;
                case Kind.REFUND:
                    return AT_PERCENT;
                case Kind.END:
                    return AT_CAMPAIGN;
                default:
                    return NOWHERE;
            }
        }

        private int followInCondition(int kind) {
            switch (state) {
                case AT_LITERAL:
                    return kind == Kind.NEAR ? AT_MARK : followUnit(kind);
                case AT_MARK:
                    return step(kind, Kind.INT, BEHIND_MARK);
                case BEHIND_MARK:
                    return followLiteral(kind);
                case AT_UNIT:
                    return followUnit(kind);
                case BEHIND_UNIT:
                    return followBehindUnit(kind);
                default:
                    return NOWHERE;
            }
        }

        private static int followUnit(int kind) {
            if (kind == Kind.OPEN) {
                return AT_UNIT;
            }
            return kind == Kind.INT || Kind.isVariable(kind) ? BEHIND_UNIT : NOWHERE;
        }

        private int followBehindUnit(int kind) {
            int rank = Kind.rankOf(kind);
            if (rank >= Kind.RANK_OF_SUM) {
                return AT_UNIT;
            }
            if (depth > 0) {
                return step(kind, Kind.CLOSE, BEHIND_UNIT);
            }
            if (!isRightSide) {
                return step(rank, Kind.RANK_OF_COMPARISON, AT_UNIT);
            }
            return followLiteral(kind);
        }

        private static int followLiteral(int kind) {
            if (kind == Kind.AND || kind == Kind.OR) {
                return AT_LITERAL;
            }
            return step(kind, Kind.SEMICOLON, AT_CLAUSE);
        }

        private boolean lacksRoomFor(int kind) {
            if (state == AT_CAMPAIGN) {
                return contracts.campaigns() >= MAX_CAMPAIGNS;
            }
            if (state == AT_CLAUSE) {
                return kind != Kind.END && contracts.clauses() >= MAX_CLAUSES;
            }
            return kind == Kind.OPEN && depth >= MAX_DEPTH;
        }

        private void note(int kind) {
            int number = tokens.number();
            switch (state) {
                case AT_NAME:
                    noteCampaign();
                    break;
                case AT_FIRST:
                    contracts.setFrom(number);
                    break;
                case AT_LAST:
                    noteLast(number);
                    break;
                case AT_CLAUSE:
                    noteClause(kind);
                    break;
                case AT_AMOUNT:
                    blameIf(number == 0 || number > MAX_BOARDS, WRONG);
                    contracts.setAmount(number);
                    break;
                case AT_DISTRICT:
                    noteDistrict(number);
                    break;
                case AT_PRICE:
                    contracts.setWorth(number);
                    break;
                case AT_RIVAL:
                    noteRival();
                    break;
                case AT_PERCENT:
                    blameIf(number > 100, WRONG);
                    contracts.setAmount(number);
                    break;
                case AT_MARK:
                    blameIf(number > 7, WRONG);
                    contracts.addCode(Kind.NEAR, number);
                    break;
                case AT_LITERAL:
                case AT_UNIT:
                    noteUnit(kind, number);
                    break;
                case BEHIND_MARK:
                case BEHIND_UNIT:
                    noteBehind(kind);
                    break;
                default:
                    break;
            }
        }

        private void noteCampaign() {
            long name = tokens.name();
            blameIf(campaignOf(name) != NONE, TWICE);
            int campaign = contracts.campaigns();
            if (contracts.addCampaign() && campaign < names.length) {
                names[campaign] = name;
            }
        }

        private int campaignOf(long name) {
            for (int campaign = 0; campaign < contracts.campaigns() && campaign < names.length; campaign++) {
                if (names[campaign] == name) {
                    return campaign;
                }
            }
            return NONE;
        }

        private void noteLast(int fortnight) {
            int first = contracts.firstOf(contracts.campaigns() - 1);
            blameIf(fortnight <= first || fortnight > FORTNIGHTS, WRONG);
            contracts.setUntil(fortnight);
        }

        private void noteClause(int kind) {
            if (kind != Kind.END) {
                contracts.addClause(kind);
                isRightSide = false;
            }
        }

        private void noteDistrict(int district) {
            int campaign = contracts.campaigns() - 1;
            blameIf(contracts.wantOf(campaign, district) != NONE, TWICE);
            blameIf(!Boards.isDistrict(district), WRONG);
            contracts.setDistrict(district);
        }

        private void noteRival() {
            int clause = contracts.clauses() - 1;
            if (clause >= 0 && clause < MAX_CLAUSES) {
                rivals[clause] = tokens.name();
                rivalPlaces[clause] = tokens.start();
            }
        }

        /** A campaign may be named before it is told, so names are settled behind the text's end. */
        private void settleRivals() {
            for (int clause = 0; clause < contracts.clauses() && clause < MAX_CLAUSES; clause++) {
                if (contracts.kindOf(clause) == Kind.BESIDE) {
                    int owner = contracts.ownerOf(clause);
                    int rival = campaignOf(rivals[clause]);
                    if (rival == NONE) {
                        blame(UNKNOWN_NAME, rivalPlaces[clause]);
                    } else if (rival == owner) {
                        blame(WRONG, rivalPlaces[clause]);
                    } else {
                        contracts.setApart(owner, rival);
                    }
                }
            }
        }

        private void noteUnit(int kind, int number) {
            if (kind == Kind.OPEN) {
                hold(kind);
                depth++;
            } else if (kind == Kind.INT) {
                contracts.addCode(kind, number);
            } else if (kind != Kind.NEAR) {
                contracts.addCode(kind, 0);
            }
        }

        private void noteBehind(int kind) {
            int rank = Kind.rankOf(kind);
            release(Math.max(rank, 1));
            if (kind == Kind.CLOSE) {
                waitingSize = Math.max(0, waitingSize - 1);
                depth--;
            } else if (rank > 0) {
                hold(kind);
            }
            if (rank < Kind.RANK_OF_SUM && depth == 0 && kind != Kind.CLOSE) {
                isRightSide = rank == Kind.RANK_OF_COMPARISON;
            }
        }

        private void hold(int kind) {
            if (waitingSize >= 0 && waitingSize < waiting.length) {
                waiting[waitingSize] = kind;
                waitingSize++;
            }
        }

        /** Operators that bind as tightly or more have both sides now; a bracket ranks 0 and stays. */
        private void release(int rank) {
            for (int top = waitingSize - 1; top >= 0 && top < waiting.length; top--) {
                if (Kind.rankOf(waiting[top]) < rank) {
                    break;
                }
                contracts.addCode(waiting[top], 0);
                waitingSize = top;
            }
        }
    }

    /** Weighs conditions of the board that is regarded. */
    private static final class Judge {
        // As many values as there are operators waiting, and one more, have room by the same reckoning.
        private final int[] stack = new int[5 * (MAX_DEPTH + 1)];
        private int district;
        private int quality;
        private int audience;
        private int marks;
        private int shown;
        private int unseen;
        private int late;

        /** As a bar sees it: nothing has come of the board yet. */
        void regard(Boards boards, int board) {
            district = boards.districtOf(board);
            quality = boards.qualityOf(board);
            audience = boards.audienceOf(board);
            marks = boards.marksOf(board);
            shown = 0;
            unseen = 0;
            late = 0;
        }

        void regardCourse(Course course, int daysLate) {
            shown = course.daysOf(Course.SHOWN);
            unseen = course.daysOf(Course.UNSEEN);
            late = daysLate;
        }

        int firstHolding(Contracts contracts, int kind, int campaign) {
            for (int clause = 0; clause < contracts.clauses(); clause++) {
                if (contracts.kindOf(clause) == kind && contracts.ownerOf(clause) == campaign
                        && holds(contracts, clause)) {
                    return clause;
                }
            }
            return NONE;
        }

        private boolean holds(Contracts contracts, int clause) {
            int height = 0;
            int end = contracts.codeEndOf(clause);
            for (int at = contracts.codeStartOf(clause); at < end; at++) {
                int kind = contracts.codeKindAt(at);
                if (Kind.rankOf(kind) == 0) {
                    if (height >= 0 && height < stack.length) {
                        stack[height] = valueOf(kind, contracts.codeNumberAt(at));
                        height++;
                    }
                } else if (height >= 2 && height <= stack.length) {
                    stack[height - 2] = combine(kind, stack[height - 2], stack[height - 1]);
                    height--;
                }
            }
            return height > 0 && stack[0] != 0;
        }

        private int valueOf(int kind, int number) {
            switch (kind) {
                case Kind.INT:
                    return number;
                case Kind.NEAR:
                    return (marks >>> number) & 1;
                case Kind.DISTRICT:
                    return district;
                case Kind.QUALITY:
                    return quality;
                case Kind.AUDIENCE:
                    return audience;
                case Kind.SHOWN:
                    return shown;
                case Kind.UNSEEN:
                    return unseen;
                case Kind.LATE:
                    return late;
                default:
                    return 0;
            }
        }

        private static int combine(int kind, int left, int right) {
            switch (kind) {
                case Kind.PLUS:
                    return left + right;
                case Kind.MINUS:
                    return left - right;
                case Kind.TIMES:
                    return left * right;
                case Kind.EQUAL:
                    return left == right ? 1 : 0;
                case Kind.UNEQUAL:
                    return left != right ? 1 : 0;
                case Kind.BELOW:
                    return left < right ? 1 : 0;
                case Kind.AT_MOST:
                    return left <= right ? 1 : 0;
                case Kind.AND:
                    return left & right;
                case Kind.OR:
                    return left | right;
                default:
                    return 0;
            }
        }
    }

    /** The boards along the streets, and the pace of each district's man. */
    private static final class Boards {
        private static final int FIRST_PACE = 3;

        private final int[] district = new int[MAX_BOARDS];
        private final int[] quality = new int[MAX_BOARDS];
        private final int[] audience = new int[MAX_BOARDS];
        private final int[] marks = new int[MAX_BOARDS];
        private final boolean[] beside = new boolean[MAX_BOARDS];
        private final int[] pace = new int[DISTRICTS];
        private int size;

        Boards() {
            Arrays.fill(pace, FIRST_PACE);
        }

        static boolean isDistrict(int district) {
            return district >= 0 && district < DISTRICTS;
        }

        private static boolean isWithin(int value, int least, int most) {
            return value >= least && value <= most;
        }

        int size() {
            return size;
        }

        boolean has(int board) {
            return board >= 0 && board < size && board < MAX_BOARDS;
        }

        int add(int itsDistrict, int itsQuality, int itsAudience, int itsMarks, boolean isBeside) {
            if (size < 0 || size >= MAX_BOARDS || !isDistrict(itsDistrict) || !isWithin(itsQuality, 1, 9)
                    || !isWithin(itsAudience, 0, 1000) || !isWithin(itsMarks, 0, 255)) {
                return NONE;
            }
            district[size] = itsDistrict;
            quality[size] = itsQuality;
            audience[size] = itsAudience;
            marks[size] = itsMarks;
            beside[size] = isBeside && size > 0;
            size++;
            return size - 1;
        }

        boolean setPace(int itsDistrict, int value) {
            if (!isDistrict(itsDistrict) || !isWithin(value, 1, 9)) {
                return false;
            }
            pace[itsDistrict] = value;
            return true;
        }

        int paceOf(int itsDistrict) {
            return isDistrict(itsDistrict) ? pace[itsDistrict] : FIRST_PACE;
        }

        int districtOf(int board) {
            return has(board) ? district[board] : NONE;
        }

        int qualityOf(int board) {
            return has(board) ? quality[board] : 0;
        }

        int audienceOf(int board) {
            return has(board) ? audience[board] : 0;
        }

        int marksOf(int board) {
            return has(board) ? marks[board] : 0;
        }

        boolean isBesideOneAhead(int board) {
            return has(board) && beside[board];
        }
    }

    /** What was told of boards, in the order in which it was told. */
    private static final class Facts {
        static final int HUNG = 0;
        static final int SEEN = 1;
        static final int LOST = 4;

        private final int[] kind = new int[MAX_FACTS];
        private final int[] board = new int[MAX_FACTS];
        private final int[] fortnight = new int[MAX_FACTS];
        private final int[] day = new int[MAX_FACTS];
        private int size;

        int size() {
            return size;
        }

        boolean areKnown(int n) {
            return n >= 0 && n <= size;
        }

        private boolean has(int number) {
            return number >= 0 && number < size && number < MAX_FACTS;
        }

        int add(int itsKind, int itsBoard, int itsFortnight, int itsDay) {
            int lastDay = itsKind == LOST ? 0 : DAYS - 1;
            if (size < 0 || size >= MAX_FACTS || itsKind < HUNG || itsKind > LOST
                    || !isFortnight(itsFortnight) || itsDay < 0 || itsDay > lastDay) {
                return NONE;
            }
            kind[size] = itsKind;
            board[size] = itsBoard;
            fortnight[size] = itsFortnight;
            day[size] = itsDay;
            size++;
            return size - 1;
        }

        boolean isOf(int number, int itsBoard, int itsFortnight) {
            return has(number) && board[number] == itsBoard && fortnight[number] == itsFortnight;
        }

        int kindOf(int number) {
            return has(number) ? kind[number] : NONE;
        }

        int dayOf(int number) {
            return has(number) ? day[number] : NONE;
        }

        boolean isLost(int itsBoard, int byFortnight, int n) {
            for (int i = 0; i < n && has(i); i++) {
                if (kind[i] == LOST && board[i] == itsBoard && fortnight[i] <= byFortnight) {
                    return true;
                }
            }
            return false;
        }
    }

    /** What came of one board in one fortnight, day by day, as known. */
    private static final class Course {
        static final int NEITHER = 0;
        static final int SHOWN = 1;
        static final int UNSEEN = 2;

        private final int[] proof = new int[DAYS];
        private final int[] look = new int[DAYS];
        private int firstHung;

        void follow(Facts facts, int board, int fortnight, int n) {
            Arrays.fill(proof, NONE);
            firstHung = DAYS;
            for (int i = 0; i < n && i < facts.size(); i++) {
                if (facts.isOf(i, board, fortnight)) {
                    learn(facts.kindOf(i), facts.dayOf(i));
                }
            }
            lookThroughDays();
        }

        private void learn(int kind, int day) {
            if (kind == Facts.HUNG) {
                firstHung = Math.min(firstHung, day);
            } else if (kind != Facts.LOST && day >= 0 && day < DAYS) {
                proof[day] = kind;
            }
        }

        private void lookThroughDays() {
            int latest = NONE;
            for (int day = 0; day < DAYS; day++) {
                latest = proof[day] == NONE ? latest : proof[day];
                if (latest == NONE) {
                    look[day] = day >= firstHung ? UNSEEN : NEITHER;
                } else {
                    look[day] = latest == Facts.SEEN ? SHOWN : NEITHER;
                }
            }
        }

        /** The first day on which it was hung; one behind the last without. */
        int firstHung() {
            return firstHung;
        }

        int lookOn(int day) {
            return day >= 0 && day < DAYS ? look[day] : NONE;
        }

        int daysOf(int asked) {
            int sum = 0;
            for (int day = 0; day < DAYS; day++) {
                if (look[day] == asked) {
                    sum++;
                }
            }
            return sum;
        }
    }

    /** What is given: of each fortnight the want's clause of each board. */
    private static final class Givings {
        private final int[] clause = new int[FORTNIGHTS * MAX_BOARDS];
        private final boolean[] made = new boolean[FORTNIGHTS];

        Givings() {
            Arrays.fill(clause, NONE);
        }

        void clear() {
            Arrays.fill(clause, NONE);
            for (int fortnight = 0; fortnight < FORTNIGHTS; fortnight++) {
                made[fortnight] = false;
            }
        }

        boolean isMade(int fortnight) {
            return isFortnight(fortnight) && made[fortnight];
        }

        void setMade(int fortnight) {
            if (isFortnight(fortnight)) {
                made[fortnight] = true;
            }
        }

        private static boolean hasRow(int board, int fortnight) {
            return board >= 0 && board < MAX_BOARDS && isFortnight(fortnight);
        }

        void set(int board, int fortnight, int itsClause) {
            if (hasRow(board, fortnight)) {
                clause[fortnight * MAX_BOARDS + board] = itsClause;
            }
        }

        int clauseOf(int board, int fortnight) {
            return hasRow(board, fortnight) ? clause[fortnight * MAX_BOARDS + board] : NONE;
        }

        int boardsOf(int want, int fortnight) {
            int sum = 0;
            for (int board = 0; board < MAX_BOARDS; board++) {
                if (clauseOf(board, fortnight) == want) {
                    sum++;
                }
            }
            return sum;
        }

        int fortnightsMade() {
            int sum = 0;
            for (int fortnight = 0; fortnight < FORTNIGHTS; fortnight++) {
                if (made[fortnight]) {
                    sum++;
                }
            }
            return sum;
        }
    }

    /**
     * Finds the best way to give a fortnight's boards. Boards are filled by number, each by its
     * options from the least clause on, so of alike ways the first one found is the one that is due.
     */
    private static final class Planner {
        // A board has at most one want of each campaign in force, and none.
        private static final int OPTIONS = MAX_IN_FORCE + 1;
        // One worth outweighs all moves that there can be.
        private static final int GAIN_OF_WORTH = 16;
        private static final int NOTHING_FOUND = -1000000;
        private static final int SEEN_BITS = 9;
        // Any odd number with mixed bits spreads the keys.
        private static final long SPREAD = 0x9E3779B97F4A7C15L;

        private final Boards boards;
        private final Facts facts;
        private final Judge judge;
        private Contracts contracts;
        private int size;
        private final int[] options = new int[MAX_BOARDS];
        private final int[] clause = new int[MAX_BOARDS * OPTIONS];
        private final int[] gain = new int[MAX_BOARDS * OPTIONS];
        private final int[] left = new int[MAX_CLAUSES];
        private final int[] takers = new int[(MAX_BOARDS + 1) * MAX_CLAUSES];
        private final int[] picked = new int[MAX_BOARDS];
        private final int[] best = new int[MAX_BOARDS];
        private final int[] mostFrom = new int[MAX_BOARDS + 1];
        private final long[] seenKeys = new long[1 << SEEN_BITS];
        private final int[] seenGains = new int[1 << SEEN_BITS];
        private int most;

        Planner(Boards boards, Facts facts, Judge judge) {
            this.boards = boards;
            this.facts = facts;
            this.judge = judge;
        }

        int clauseFor(int board) {
            return board >= 0 && board < size && board < MAX_BOARDS ? best[board] : NONE;
        }

        /** Plans a giving, or the mending of what is given now. */
        void plan(Contracts itsContracts, int fortnight, int n, Givings now) {
            contracts = itsContracts;
            size = Math.min(boards.size(), MAX_BOARDS);
            for (int want = 0; want < MAX_CLAUSES; want++) {
                left[want] = contracts.amountOf(want);
            }
            for (int board = 0; board < size; board++) {
                listOptions(board, fortnight, n, now);
            }
            countTakers();
            search();
        }

        private void listOptions(int board, int fortnight, int n, Givings now) {
            if (board < 0 || board >= MAX_BOARDS) {
                return;
            }
            options[board] = 0;
            if (facts.isLost(board, fortnight, n)) {
                addOption(board, NONE, 0);
                return;
            }
            judge.regard(boards, board);
            for (int want = 0; want < contracts.clauses(); want++) {
                if (suits(want, board, fortnight)) {
                    addOption(board, want, gainOf(want, board, fortnight, now));
                }
            }
            addOption(board, NONE, gainOf(NONE, board, fortnight, now));
        }

        private boolean suits(int want, int board, int fortnight) {
            int campaign = contracts.ownerOf(want);
            return contracts.kindOf(want) == Kind.WANT
                    && contracts.districtOf(want) == boards.districtOf(board)
                    && contracts.isInForce(campaign, fortnight)
                    && judge.firstHolding(contracts, Kind.BAR, campaign) == NONE;
        }

        private int gainOf(int want, int board, int fortnight, Givings now) {
            int gained = contracts.worthOf(want) * GAIN_OF_WORTH;
            return now == null || now.clauseOf(board, fortnight) == want ? gained : gained - 1;
        }

        private void addOption(int board, int want, int itsGain) {
            if (board >= 0 && board < MAX_BOARDS && options[board] >= 0 && options[board] < OPTIONS) {
                clause[board * OPTIONS + options[board]] = want;
                gain[board * OPTIONS + options[board]] = itsGain;
                options[board]++;
            }
        }

        /** Of each board, how many from it on could take each want. */
        private void countTakers() {
            Arrays.fill(takers, 0);
            for (int board = Math.min(size, MAX_BOARDS) - 1; board >= 0; board--) {
                int row = board * MAX_CLAUSES;
                for (int want = 0; want < MAX_CLAUSES; want++) {
                    takers[row + want] = takers[row + MAX_CLAUSES + want];
                }
                for (int i = 0; i < options[board] && i < OPTIONS; i++) {
                    int want = clause[board * OPTIONS + i];
                    if (want >= 0 && want < MAX_CLAUSES) {
                        takers[row + want]++;
                    }
                }
            }
        }

        /** What the last boards gain at most by themselves bounds what they can add to those ahead. */
        private void search() {
            Arrays.fill(mostFrom, 0);
            for (int first = Math.min(size, MAX_BOARDS) - 1; first >= 0; first--) {
                Arrays.fill(seenKeys, NONE);
                most = NOTHING_FOUND;
                fill(first, 0, NONE);
                mostFrom[first] = most;
            }
        }

        private void fill(int board, int gained, int ahead) {
            if (board < 0 || board >= size || board >= MAX_BOARDS) {
                keep(gained);
                return;
            }
            if (isOutdone(board, gained, ahead)) {
                return;
            }
            int end = Math.min(board * OPTIONS + options[board], clause.length);
            for (int at = board * OPTIONS; at < end; at++) {
                int want = clause[at];
                int campaign = contracts.ownerOf(want);
                int sum = gained + gain[at];
                if (sum + mostFrom[board + 1] > most && isFree(want)
                        && !areRivals(board, ahead, campaign)) {
                    use(want, -1);
                    picked[board] = want;
                    fill(board + 1, sum, campaign);
                    use(want, 1);
                }
            }
        }

        private boolean areRivals(int board, int ahead, int campaign) {
            return boards.isBesideOneAhead(board) && contracts.areApart(ahead, campaign);
        }

        private boolean isFree(int want) {
            return want < 0 || (want < left.length && left[want] > 0);
        }

        private void use(int want, int change) {
            if (want >= 0 && want < left.length) {
                left[want] += change;
            }
        }

        private void keep(int gained) {
            if (gained > most) {
                most = gained;
                for (int board = 0; board < MAX_BOARDS; board++) {
                    best[board] = picked[board];
                }
            }
        }

        /**
         * Whether boards ahead, filled otherwise, left the same to this board on and gained as much:
         * what could follow has been tried then. A row that another key took is only tried again.
         */
        private boolean isOutdone(int board, int gained, int ahead) {
            long key = keyOf(board, ahead);
            int row = (int) ((key * SPREAD) >>> (64 - SEEN_BITS));
            if (row < 0 || row >= seenKeys.length || row >= seenGains.length) {
                return false;
            }
            if (seenKeys[row] == key && seenGains[row] >= gained) {
                return true;
            }
            seenKeys[row] = key;
            seenGains[row] = gained;
            return false;
        }

        /** Alike for all that makes no odds to this board and those behind it. */
        private long keyOf(int board, int ahead) {
            long key = boards.isBesideOneAhead(board) ? ahead + 1 : 0;
            for (int want = 0; want < contracts.clauses() && want < MAX_CLAUSES; want++) {
                int at = board * MAX_CLAUSES + want;
                int asked = at >= 0 && at < takers.length ? takers[at] : 0;
                if (asked > 0) {
                    key = key * (asked + 1) + Math.min(asked, left[want]);
                }
            }
            // The radices above are the board's own: behind them it keeps the keys of boards apart.
            return key * MAX_BOARDS + board;
        }
    }
}
