import java.util.ArrayList;
import java.util.Arrays;
import java.util.HashMap;
import java.util.List;
import java.util.Map;
import java.util.Set;
import java.util.function.Predicate;
import java.util.function.ToIntFunction;

/**
 * The document written down a second time, in the most literal way and with all of the library:
 * every way is tried, every day is asked for by itself. ModelTest holds the program against it.
 */
final class Model {
    static final int NONE = -1;
    private static final Set<String> WORDS = Set.of("campaign", "from", "until", "end", "want", "in", "worth",
            "bar", "beside", "refund", "if", "or", "and", "near",
            "district", "quality", "audience", "shown", "unseen", "late");
    private static final Set<String> VARIABLES =
            Set.of("district", "quality", "audience", "shown", "unseen", "late");

    private record Board(int district, int quality, int audience, int marks, boolean beside) { }

    private record Fact(int kind, int board, int fortnight, int day) { }

    private record Token(String text, int place) {
        boolean isName() {
            return text.matches("[a-z]{1,8}") && !WORDS.contains(text);
        }

        boolean isInt() {
            return text.matches("[0-9]{1,4}");
        }
    }

    /** What a condition asks about: a board and what came of it. */
    private record Subject(Board board, int shown, int unseen, int late) { }

    private static final class Clause {
        String kind;
        int campaign;
        int amount;
        int district;
        int worth;
        Token rival;
        Predicate<Subject> condition;
    }

    private static final class Campaign {
        Token name;
        int from;
        int until;
    }

    private static final class Fault extends Exception {
        private static final long serialVersionUID = 1L;
        final int number;
        final int place;

        Fault(int number, int place) {
            this.number = number;
            this.place = place;
        }
    }

    private final List<Board> boards = new ArrayList<>();
    private final List<Fact> facts = new ArrayList<>();
    private final int[] pace = {3, 3, 3, 3, 3, 3};
    private String tape = "";
    private int faultPlace = NONE;
    private List<Campaign> campaigns = new ArrayList<>();
    private List<Clause> clauses = new ArrayList<>();
    private final Map<Integer, int[]> givings = new HashMap<>();

    int feed(int a, int b, int c, int d, int e) {
        if (tape.length() + 20 > 3000) {
            return NONE;
        }
        for (int four : new int[] {a, b, c, d, e}) {
            for (int shift = 24; shift >= 0; shift -= 8) {
                tape += (char) ((four >>> shift) & 255);
            }
        }
        return tape.length();
    }

    int back(int n) {
        if (n < 0 || n > tape.length()) {
            return NONE;
        }
        tape = tape.substring(0, tape.length() - n);
        return tape.length();
    }

    int read() {
        String text = tape;
        tape = "";
        try {
            Reading reading = new Reading(text);
            reading.readText();
            reading.judge();
            campaigns = reading.campaigns;
            clauses = reading.clauses;
            givings.clear();
            faultPlace = NONE;
            return 0;
        } catch (Fault fault) {
            faultPlace = fault.place;
            return fault.number;
        }
    }

    int place() {
        return faultPlace;
    }

    /** One reading of a text by descent; faults of form end it, the others are gathered. */
    private static final class Reading {
        final String text;
        final List<Token> tokens = new ArrayList<>();
        final List<Campaign> campaigns = new ArrayList<>();
        final List<Clause> clauses = new ArrayList<>();
        final List<Fault> doubts = new ArrayList<>();
        int at = 0;

        Reading(String text) {
            this.text = text;
            int i = 0;
            while (i < text.length()) {
                char c = text.charAt(i);
                if (c == 9 || c == 10 || c == 13 || c == 32) {
                    i++;
                    continue;
                }
                int end = i + 1;
                if (c >= 'a' && c <= 'z') {
                    while (end < text.length() && text.charAt(end) >= 'a' && text.charAt(end) <= 'z') {
                        end++;
                    }
                } else if (c >= '0' && c <= '9') {
                    while (end < text.length() && text.charAt(end) >= '0' && text.charAt(end) <= '9') {
                        end++;
                    }
                } else if (end < text.length() && "== != <=".contains(text.substring(i, end + 1))
                        && text.charAt(end) == '=') {
                    end++;
                }
                tokens.add(new Token(text.substring(i, end), i));
                i = end;
            }
        }

        Token now() {
            return at < tokens.size() ? tokens.get(at) : new Token("", text.length());
        }

        boolean isNow(String word) {
            return now().text.equals(word);
        }

        Fault syntax() {
            return new Fault(1, now().place);
        }

        Token next() throws Fault {
            Token token = now();
            if (at >= 600) {
                throw new Fault(2, token.place);
            }
            at++;
            return token;
        }

        Token need(String word) throws Fault {
            if (!isNow(word)) {
                throw syntax();
            }
            return next();
        }

        int needInt() throws Fault {
            if (!now().isInt()) {
                throw syntax();
            }
            return Integer.parseInt(next().text);
        }

        Token needName() throws Fault {
            if (!now().isName()) {
                throw syntax();
            }
            return next();
        }

        void doubt(boolean wrong, int number, int place) {
            if (wrong) {
                doubts.add(new Fault(number, place));
            }
        }

        void judge() throws Fault {
            for (Clause clause : clauses) {
                if (clause.kind.equals("beside")) {
                    boolean known = campaigns.stream().anyMatch(c -> c.name.text.equals(clause.rival.text));
                    doubt(!known, 4, clause.rival.place);
                    String own = campaigns.get(clause.campaign).name.text;
                    doubt(own.equals(clause.rival.text), 5, clause.rival.place);
                }
            }
            Fault first = null;
            for (Fault fault : doubts) {
                if (first == null || fault.place < first.place
                        || fault.place == first.place && fault.number < first.number) {
                    first = fault;
                }
            }
            if (first != null) {
                throw first;
            }
        }

        void readText() throws Fault {
            while (isNow("campaign")) {
                if (campaigns.size() == 8) {
                    throw new Fault(2, now().place);
                }
                readCampaign();
            }
            if (at < tokens.size()) {
                throw syntax();
            }
        }

        void readCampaign() throws Fault {
            need("campaign");
            Campaign campaign = new Campaign();
            Token name = needName();
            campaign.name = name;
            doubt(campaigns.stream().anyMatch(c -> c.name.text.equals(name.text)), 3, name.place);
            campaigns.add(campaign);
            need("from");
            campaign.from = needInt();
            need("until");
            int place = now().place;
            campaign.until = needInt();
            doubt(campaign.until <= campaign.from || campaign.until > 26, 5, place);
            need(";");
            while (!isNow("end")) {
                readClause();
            }
            need("end");
        }

        void readClause() throws Fault {
            String kind = now().text;
            if (!Set.of("want", "bar", "beside", "refund").contains(kind)) {
                throw syntax();
            }
            if (clauses.size() == 40) {
                throw new Fault(2, now().place);
            }
            next();
            Clause clause = new Clause();
            clause.kind = kind;
            clause.campaign = campaigns.size() - 1;
            clauses.add(clause);
            if (kind.equals("want")) {
                readWant(clause);
            } else if (kind.equals("beside")) {
                clause.rival = needName();
            } else {
                if (kind.equals("refund")) {
                    int place = now().place;
                    clause.amount = needInt();
                    doubt(clause.amount > 100, 5, place);
                    need("if");
                }
                clause.condition = readCondition();
            }
            need(";");
        }

        void readWant(Clause clause) throws Fault {
            int place = now().place;
            clause.amount = needInt();
            doubt(clause.amount == 0 || clause.amount > 9, 5, place);
            need("in");
            place = now().place;
            clause.district = needInt();
            doubt(clause.district > 5, 5, place);
            for (Clause other : clauses) {
                doubt(other != clause && other.kind.equals("want") && other.campaign == clause.campaign
                        && other.district == clause.district, 3, place);
            }
            need("worth");
            clause.worth = needInt();
        }

        Predicate<Subject> readCondition() throws Fault {
            Predicate<Subject> left = readAll();
            while (isNow("or")) {
                next();
                left = left.or(readAll());
            }
            return left;
        }

        Predicate<Subject> readAll() throws Fault {
            Predicate<Subject> left = readLiteral();
            while (isNow("and")) {
                next();
                left = left.and(readLiteral());
            }
            return left;
        }

        Predicate<Subject> readLiteral() throws Fault {
            if (isNow("near")) {
                next();
                int place = now().place;
                int mark = needInt();
                doubt(mark > 7, 5, place);
                return s -> mark <= 7 && (s.board.marks >> mark & 1) == 1;
            }
            ToIntFunction<Subject> left = readSum(0);
            String sign = now().text;
            if (!Set.of("==", "!=", "<", "<=").contains(sign)) {
                throw syntax();
            }
            next();
            ToIntFunction<Subject> right = readSum(0);
            return switch (sign) {
                case "==" -> s -> left.applyAsInt(s) == right.applyAsInt(s);
                case "!=" -> s -> left.applyAsInt(s) != right.applyAsInt(s);
                case "<" -> s -> left.applyAsInt(s) < right.applyAsInt(s);
                default -> s -> left.applyAsInt(s) <= right.applyAsInt(s);
            };
        }

        ToIntFunction<Subject> readSum(int depth) throws Fault {
            ToIntFunction<Subject> sum = readProduct(depth);
            while (isNow("+") || isNow("-")) {
                boolean plus = next().text.equals("+");
                ToIntFunction<Subject> left = sum;
                ToIntFunction<Subject> right = readProduct(depth);
                sum = plus ? s -> left.applyAsInt(s) + right.applyAsInt(s)
                        : s -> left.applyAsInt(s) - right.applyAsInt(s);
            }
            return sum;
        }

        ToIntFunction<Subject> readProduct(int depth) throws Fault {
            ToIntFunction<Subject> product = readUnit(depth);
            while (isNow("*")) {
                next();
                ToIntFunction<Subject> left = product;
                ToIntFunction<Subject> right = readUnit(depth);
                product = s -> left.applyAsInt(s) * right.applyAsInt(s);
            }
            return product;
        }

        ToIntFunction<Subject> readUnit(int depth) throws Fault {
            if (isNow("(")) {
                if (depth == 6) {
                    throw new Fault(2, now().place);
                }
                next();
                ToIntFunction<Subject> inner = readSum(depth + 1);
                need(")");
                return inner;
            }
            if (now().isInt()) {
                int number = needInt();
                return s -> number;
            }
            if (!VARIABLES.contains(now().text)) {
                throw syntax();
            }
            return switch (next().text) {
                case "district" -> s -> s.board.district;
                case "quality" -> s -> s.board.quality;
                case "audience" -> s -> s.board.audience;
                case "shown" -> s -> s.shown;
                case "unseen" -> s -> s.unseen;
                default -> s -> s.late;
            };
        }
    }

    private static boolean within(int value, int least, int most) {
        return value >= least && value <= most;
    }

    private boolean known(int fortnight, int n) {
        return within(fortnight, 0, 25) && within(n, 0, facts.size());
    }

    int board(int district, int quality, int audience, int marks, boolean beside) {
        if (boards.size() == 9 || !within(district, 0, 5) || !within(quality, 1, 9)
                || !within(audience, 0, 1000) || !within(marks, 0, 255)) {
            return NONE;
        }
        boards.add(new Board(district, quality, audience, marks, beside));
        return boards.size() - 1;
    }

    boolean pace(int district, int v) {
        if (!within(district, 0, 5) || !within(v, 1, 9)) {
            return false;
        }
        pace[district] = v;
        return true;
    }

    int fact(int kind, int board, int fortnight, int day) {
        if (facts.size() == 300 || !within(kind, 0, 4) || !within(board, 0, boards.size() - 1)
                || !within(fortnight, 0, 25) || !within(day, 0, kind == 4 ? 0 : 13)) {
            return NONE;
        }
        facts.add(new Fact(kind, board, fortnight, day));
        return facts.size() - 1;
    }

    private boolean lost(int board, int fortnight, int n) {
        return facts.subList(0, n).stream()
                .anyMatch(f -> f.kind == 4 && f.board == board && f.fortnight <= fortnight);
    }

    private boolean inForce(int campaign, int fortnight) {
        Campaign c = campaigns.get(campaign);
        return c.from <= fortnight && fortnight < c.until;
    }

    private boolean full(int fortnight) {
        int sum = 0;
        for (int c = 0; c < campaigns.size(); c++) {
            sum += inForce(c, fortnight) ? 1 : 0;
        }
        return sum > 4;
    }

    private boolean apart(int one, int other) {
        for (Clause clause : clauses) {
            if (clause.kind.equals("beside")) {
                String rival = clause.rival.text;
                if (clause.campaign == one && campaigns.get(other).name.text.equals(rival)
                        || clause.campaign == other && campaigns.get(one).name.text.equals(rival)) {
                    return true;
                }
            }
        }
        return false;
    }

    /** All ways in the order of their clauses, none behind all; the better one is kept. */
    private final class Trial {
        final int fortnight;
        final int n;
        final int[] now;
        final int[] way = new int[boards.size()];
        int[] best = null;
        int bestWorth = -1;
        int bestMoved = 0;
        final List<List<Integer>> choices = new ArrayList<>();
        final boolean[][] apart = new boolean[campaigns.size()][campaigns.size()];

        Trial(int fortnight, int n, int[] now) {
            this.fortnight = fortnight;
            this.n = n;
            this.now = now;
            for (int one = 0; one < apart.length; one++) {
                for (int other = 0; other < apart.length; other++) {
                    apart[one][other] = apart(one, other);
                }
            }
            for (int b = 0; b < boards.size(); b++) {
                List<Integer> wants = new ArrayList<>();
                for (int c = 0; c < clauses.size() && !lost(b, fortnight, n); c++) {
                    Clause clause = clauses.get(c);
                    if (clause.kind.equals("want") && clause.district == boards.get(b).district
                            && inForce(clause.campaign, fortnight) && firstBar(b, clause.campaign) == NONE) {
                        wants.add(c);
                    }
                }
                wants.add(NONE);
                choices.add(wants);
            }
            tryFrom(0);
        }

        void tryFrom(int b) {
            if (b == way.length) {
                weigh();
                return;
            }
            for (int c : choices.get(b)) {
                way[b] = c;
                if (fits(b)) {
                    tryFrom(b + 1);
                }
            }
        }

        boolean fits(int b) {
            if (way[b] == NONE) {
                return true;
            }
            int used = 0;
            for (int i = 0; i <= b; i++) {
                used += way[i] == way[b] ? 1 : 0;
            }
            if (used > clauses.get(way[b]).amount) {
                return false;
            }
            if (b == 0 || !boards.get(b).beside || way[b - 1] == NONE) {
                return true;
            }
            int one = clauses.get(way[b - 1]).campaign;
            int other = clauses.get(way[b]).campaign;
            return one == other || !apart[one][other];
        }

        void weigh() {
            int worth = 0;
            int moved = 0;
            for (int b = 0; b < way.length; b++) {
                worth += way[b] == NONE ? 0 : clauses.get(way[b]).worth;
                if (now != null && way[b] != now[b] && !lost(b, fortnight, n)) {
                    moved++;
                }
            }
            if (worth > bestWorth || worth == bestWorth && moved < bestMoved) {
                best = way.clone();
                bestWorth = worth;
                bestMoved = moved;
            }
        }
    }

    private int[] givenIn(int fortnight) {
        int[] given = new int[9];
        Arrays.fill(given, NONE);
        int[] kept = givings.get(fortnight);
        System.arraycopy(kept, 0, given, 0, kept.length);
        return given;
    }

    int give(int fortnight, int n) {
        if (!known(fortnight, n)) {
            return NONE;
        }
        if (full(fortnight)) {
            return -2;
        }
        Trial trial = new Trial(fortnight, n, null);
        givings.put(fortnight, trial.best);
        return trial.bestWorth;
    }

    int mend(int fortnight, int n) {
        if (!known(fortnight, n) || !givings.containsKey(fortnight)) {
            return NONE;
        }
        if (full(fortnight)) {
            return -2;
        }
        Trial trial = new Trial(fortnight, n, givenIn(fortnight));
        givings.put(fortnight, trial.best);
        return trial.bestMoved;
    }

    private int due(int board, int fortnight) {
        int[] given = givenIn(fortnight);
        int ahead = 0;
        for (int b = 0; b < board; b++) {
            if (given[b] != NONE && boards.get(b).district == boards.get(board).district) {
                ahead++;
            }
        }
        return ahead / pace[boards.get(board).district];
    }

    int given(int board, int fortnight, int what) {
        if (!within(board, 0, boards.size() - 1) || !givings.containsKey(fortnight)) {
            return NONE;
        }
        int clause = givenIn(fortnight)[board];
        return switch (what) {
            case 0 -> clause;
            case 1 -> clause == NONE ? NONE : clauses.get(clause).campaign;
            case 2 -> clause == NONE ? 0 : clauses.get(clause).worth;
            case 3 -> clause == NONE ? NONE : due(board, fortnight);
            default -> NONE;
        };
    }

    private int first(String kind, int campaign, Subject subject) {
        for (int c = 0; c < clauses.size(); c++) {
            Clause clause = clauses.get(c);
            if (clause.kind.equals(kind) && clause.campaign == campaign && clause.condition.test(subject)) {
                return c;
            }
        }
        return NONE;
    }

    private int firstBar(int board, int campaign) {
        return first("bar", campaign, new Subject(boards.get(board), 0, 0, 0));
    }

    int may(int board, int campaign) {
        if (!within(board, 0, boards.size() - 1) || !within(campaign, 0, campaigns.size() - 1)) {
            return NONE;
        }
        return firstBar(board, campaign) == NONE ? 1 : 0;
    }

    int bar(int board, int campaign) {
        return may(board, campaign) == 0 ? firstBar(board, campaign) : NONE;
    }

    int lacks(int campaign, int fortnight, int district) {
        if (!within(campaign, 0, campaigns.size() - 1) || !within(district, 0, 5)
                || !givings.containsKey(fortnight) || !inForce(campaign, fortnight)) {
            return NONE;
        }
        int short_ = 0;
        for (int c = 0; c < clauses.size(); c++) {
            Clause clause = clauses.get(c);
            if (clause.kind.equals("want") && clause.campaign == campaign && clause.district == district) {
                short_ += clause.amount;
                for (int given : givenIn(fortnight)) {
                    short_ -= given == c ? 1 : 0;
                }
            }
        }
        return short_;
    }

    private int look(int board, int fortnight, int n, int day) {
        Fact latest = null;
        boolean hung = false;
        for (Fact f : facts.subList(0, n)) {
            if (f.board == board && f.fortnight == fortnight && f.day <= day) {
                hung |= f.kind == 0;
                if (within(f.kind, 1, 3) && (latest == null || f.day >= latest.day)) {
                    latest = f;
                }
            }
        }
        if (latest != null) {
            return latest.kind == 1 ? 1 : 0;
        }
        return hung ? 2 : 0;
    }

    private int days(int board, int fortnight, int n, int look) {
        int sum = 0;
        for (int day = 0; day < 14; day++) {
            sum += look(board, fortnight, n, day) == look ? 1 : 0;
        }
        return sum;
    }

    private int late(int board, int fortnight, int n) {
        if (!givings.containsKey(fortnight) || givenIn(fortnight)[board] == NONE) {
            return 0;
        }
        int hung = facts.subList(0, n).stream()
                .filter(f -> f.kind == 0 && f.board == board && f.fortnight == fortnight)
                .mapToInt(f -> f.day).min().orElse(14);
        return Math.max(0, hung - due(board, fortnight));
    }

    int state(int board, int fortnight, int n, int what) {
        if (!within(board, 0, boards.size() - 1) || !known(fortnight, n)) {
            return NONE;
        }
        if (within(what, 20, 33)) {
            return look(board, fortnight, n, what - 20);
        }
        return switch (what) {
            case 0 -> days(board, fortnight, n, 1);
            case 1 -> days(board, fortnight, n, 2);
            case 2 -> late(board, fortnight, n);
            case 3 -> lost(board, fortnight, n) ? 1 : 0;
            default -> NONE;
        };
    }

    int refund(int campaign, int fortnight, int n) {
        if (!within(campaign, 0, campaigns.size() - 1) || !known(fortnight, n)
                || !givings.containsKey(fortnight)) {
            return NONE;
        }
        int sum = 0;
        for (int b = 0; b < boards.size(); b++) {
            if (given(b, fortnight, 1) == campaign) {
                int ground = ground(b, fortnight, n);
                sum += ground == NONE ? 0 : given(b, fortnight, 2) * clauses.get(ground).amount / 100;
            }
        }
        return sum;
    }

    int ground(int board, int fortnight, int n) {
        if (!within(board, 0, boards.size() - 1) || !known(fortnight, n)
                || given(board, fortnight, 0) == NONE) {
            return NONE;
        }
        Subject subject = new Subject(boards.get(board), days(board, fortnight, n, 1),
                days(board, fortnight, n, 2), late(board, fortnight, n));
        return first("refund", given(board, fortnight, 1), subject);
    }

    int reach(int campaign, int fortnight, int n) {
        if (!within(campaign, 0, campaigns.size() - 1) || !known(fortnight, n)
                || !givings.containsKey(fortnight)) {
            return NONE;
        }
        int[] greatest = new int[6];
        for (int b = 0; b < boards.size(); b++) {
            Board board = boards.get(b);
            if (given(b, fortnight, 1) == campaign && days(b, fortnight, n, 1) > 0) {
                greatest[board.district] = Math.max(greatest[board.district], board.audience);
            }
        }
        return Arrays.stream(greatest).sum();
    }

    int count(int what) {
        return switch (what) {
            case 0 -> boards.size();
            case 1 -> facts.size();
            case 2 -> campaigns.size();
            case 3 -> clauses.size();
            case 4 -> givings.size();
            case 5 -> tape.length();
            default -> NONE;
        };
    }
}
