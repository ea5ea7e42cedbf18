import java.util.ArrayList;
import java.util.List;
import java.util.Random;

/** Runs of random calls, each answered by the program and by the model alike. */
public final class ModelTest {
    private static final String[] NAMES = {"a", "b", "c", "d", "alpha", "longname", "x", "zz", "end", "campaignx"};
    private static final String[] SCRAPS = {";", "+", "-", "*", "==", "!=", "<", "<=", "(", ")", "=", "!", ".", "A",
        "campaign", "from", "until", "end", "want", "in", "worth", "bar", "beside", "refund", "if", "or", "and",
        "near", "district", "quality", "audience", "shown", "unseen", "late", "7", "12345", "0", "99", "name", "\u0000"};

    private final Random random;
    private final PasteHouse house = new PasteHouse();
    private final Model model = new Model();
    private final List<String> calls = new ArrayList<>();
    private final int mostBoards;
    private static int wrong = 0;
    private static long answers = 0;
    private static final int[] FAULTS = new int[6];

    private ModelTest(long seed, int mostBoards) {
        this.random = new Random(seed);
        this.mostBoards = mostBoards;
    }

    public static void main(String[] args) {
        int runs = args.length > 0 ? Integer.parseInt(args[0]) : 1500;
        for (int run = 0; run < runs && wrong < 5; run++) {
            new ModelTest(run, run % 100 == 0 ? 9 : 6).run();
        }
        for (int run = 0; run < runs / 2 && wrong < 5; run++) {
            new ModelTest(-1 - run, run % 50 == 0 ? 9 : 7).runWays();
        }
        for (int fault = 0; fault < FAULTS.length; fault++) {
            if (FAULTS[fault] == 0) {
                wrong++;
                System.out.println("no text was read with the answer " + fault);
            }
        }
        System.out.println("ModelTest: " + answers + " answers compared, " + wrong + " differ");
        if (wrong != 0) {
            System.exit(1);
        }
    }

    private void same(String call, long got, long due) {
        answers++;
        calls.add(call + " = " + got);
        if (got != due) {
            wrong++;
            System.out.println(call + " answered " + got + ", the model says " + due + ", behind:");
            calls.forEach(c -> System.out.println("  " + c));
        }
    }

    private int below(int bound) {
        return random.nextInt(bound);
    }

    /** Mostly within 0 .. bound - 1, at times at or beyond its edges. */
    private int around(int bound) {
        int dice = below(40);
        if (dice == 0) {
            return -1;
        }
        if (dice == 1) {
            return bound;
        }
        if (dice == 2) {
            return random.nextInt();
        }
        return bound > 0 ? below(bound) : 0;
    }

    private void run() {
        int before = wrong;
        int boards = below(8) == 0 ? 0 : mostBoards - below(3);
        for (int i = 0; i < boards; i++) {
            addBoard();
        }
        for (int step = 0; step < 8 && wrong == before; step++) {
            readSomething();
            for (int i = 0; i < 40 && wrong == before; i++) {
                callSomething();
            }
        }
    }

    /** Four campaigns that all want boards in few districts; boards get lost, and come back by knowing less. */
    private void runWays() {
        int before = wrong;
        int districts = 1 + below(3);
        for (int b = 0; b < mostBoards; b++) {
            int d = below(districts);
            int q = 1 + below(9);
            boolean beside = below(4) > 0;
            same("board(" + d + "," + q + ",0,0," + beside + ")",
                    house.board(d, q, 0, 0, beside), model.board(d, q, 0, 0, beside));
        }
        feedText(rivalsText(districts));
        same("read()", house.read(), model.read());
        giveOrMend(true);
        for (int i = 0; i < 4 && wrong == before; i++) {
            for (int k = 1 + below(2); k > 0; k--) {
                int board = below(mostBoards);
                same("fact(4," + board + ",0,0)", house.fact(4, board, 0, 0), model.fact(4, board, 0, 0));
            }
            giveOrMend(below(6) == 0);
            giveOrMend(false);
        }
    }

    private void giveOrMend(boolean anew) {
        int n = below(2) == 0 ? model.count(1) : below(model.count(1) + 1);
        if (anew) {
            same("give(0," + n + ")", house.give(0, n), model.give(0, n));
        } else {
            same("mend(0," + n + ")", house.mend(0, n), model.mend(0, n));
        }
        for (int b = 0; b < mostBoards; b++) {
            same("given(" + b + ",0,0)", house.given(b, 0, 0), model.given(b, 0, 0));
        }
    }

    private String rivalsText(int districts) {
        StringBuilder text = new StringBuilder();
        int spread = below(3) == 0 ? 1 : 1 + below(40);
        for (int c = 0; c < 4; c++) {
            text.append("campaign ").append(NAMES[c]).append(" from 0 until 1;");
            for (int d = 0; d < districts; d++) {
                text.append("want ").append(1 + below(4)).append(" in ").append(d)
                        .append(" worth ").append(20 + below(spread)).append(';');
            }
            for (int other = 0; other < 4; other++) {
                if (other != c && below(3) == 0) {
                    text.append("beside ").append(NAMES[other]).append(';');
                }
            }
            if (below(3) == 0) {
                text.append("bar quality == ").append(1 + below(9)).append(" or quality < ").append(below(4)).append(';');
            }
            text.append("end ");
        }
        return text.toString();
    }

    private void addBoard() {
        if (model.count(0) >= mostBoards && mostBoards < 9) {
            return;
        }
        int d = below(10) == 0 ? around(6) : below(2);
        int q = below(20) == 0 ? around(11) : 1 + below(9);
        int a = below(20) == 0 ? around(1001) : below(1001);
        int m = below(20) == 0 ? around(256) : below(256);
        boolean beside = below(3) > 0;
        same("board(" + d + "," + q + "," + a + "," + m + "," + beside + ")",
                house.board(d, q, a, m, beside), model.board(d, q, a, m, beside));
    }

    private void feedText(String text) {
        StringBuilder padded = new StringBuilder(text);
        while (padded.length() % 20 != 0) {
            padded.append('~');
        }
        for (int i = 0; i < padded.length(); i += 20) {
            int[] fives = new int[5];
            for (int k = 0; k < 20; k++) {
                fives[k / 4] = fives[k / 4] << 8 | padded.charAt(i + k);
            }
            same("feed", house.feed(fives[0], fives[1], fives[2], fives[3], fives[4]),
                    model.feed(fives[0], fives[1], fives[2], fives[3], fives[4]));
        }
        int extra = padded.length() - text.length();
        same("back(" + extra + ")", house.back(extra), model.back(extra));
    }

    private void readSomething() {
        String text = below(12) == 0 ? crowdedText() : plainText(below(3) > 0);
        if (text.length() > 2980) {
            text = text.substring(0, 2980);
        }
        if (below(10) == 0) {
            int n = around(30);
            same("back(" + n + ")", house.back(n), model.back(n));
        }
        feedText(text);
        int due = model.read();
        FAULTS[due]++;
        same("read() of " + text, house.read(), due);
        same("place()", house.place(), model.place());
    }

    private String plainText(boolean sound) {
        List<String> tokens = new ArrayList<>();
        int campaigns = below(10) == 0 ? 0 : 2 + below(4);
        for (int c = 0; c < campaigns; c++) {
            addCampaign(tokens, c, campaigns, sound);
        }
        int harm = sound ? 0 : below(3);
        for (int i = 0; i < harm && !tokens.isEmpty(); i++) {
            int at = below(tokens.size());
            switch (below(3)) {
                case 0 -> tokens.remove(at);
                case 1 -> tokens.set(at, SCRAPS[below(SCRAPS.length)]);
                default -> tokens.add(at, SCRAPS[below(SCRAPS.length)]);
            }
        }
        if (!sound && below(6) == 0 && !tokens.isEmpty()) {
            tokens = tokens.subList(0, below(tokens.size()));
        }
        return join(tokens);
    }

    private String join(List<String> tokens) {
        StringBuilder text = new StringBuilder();
        String[] blanks = {" ", "\n", "\t", "\r", "  "};
        for (String token : tokens) {
            boolean stick = text.length() > 0 && Character.isLetterOrDigit(text.charAt(text.length() - 1))
                    && Character.isLetterOrDigit(token.charAt(0))
                    && Character.isDigit(text.charAt(text.length() - 1)) == Character.isDigit(token.charAt(0));
            if (stick && below(200) > 0 || below(2) == 0) {
                text.append(blanks[below(blanks.length)]);
            }
            text.append(token);
        }
        return text.append(" ".repeat(below(3))).toString();
    }

    private void addAll(List<String> tokens, String text) {
        tokens.addAll(List.of(text.split(" ")));
    }

    private void addCampaign(List<String> tokens, int c, int campaigns, boolean sound) {
        String name = sound ? NAMES[c] : NAMES[below(10) == 0 ? below(NAMES.length) : c];
        int from = Math.max(0, below(6) - 3);
        int until = sound ? from + 1 + below(26 - from) : below(6) == 0 ? below(29) : 20;
        addAll(tokens, "campaign " + name + " from " + from + " until " + until + " ;");
        int clauses = below(9);
        int district = 0;
        for (int i = 0; i < clauses; i++) {
            switch (below(7)) {
                case 0 -> addAll(tokens, "bar " + condition() + " ;");
                case 1 -> {
                    int rival = below(Math.max(1, campaigns));
                    if (!sound || rival != c && rival < campaigns) {
                        addAll(tokens, "beside " + NAMES[sound ? rival : below(campaigns + 1)] + " ;");
                    }
                }
                case 2 -> addAll(tokens, "refund " + below(sound ? 101 : 104) + " if " + condition() + " ;");
                default -> {
                    if (!sound || district < 6) {
                        int amount = sound || below(6) > 0 ? 1 + below(3) : below(11);
                        int at = sound || below(6) > 0 ? district++ : below(7);
                        int worth = below(3) == 0 ? below(10000) : below(4) * 5;
                        addAll(tokens, "want " + amount + " in " + at + " worth " + worth + " ;");
                    }
                }
            }
        }
        tokens.add("end");
    }

    private String condition() {
        StringBuilder text = new StringBuilder(literal());
        for (int i = below(3); i > 0; i--) {
            text.append(below(2) == 0 ? " and " : " or ").append(literal());
        }
        return text.toString();
    }

    private String literal() {
        if (below(3) == 0) {
            return below(2) == 0 ? "quality <= " + below(4) : "shown < " + below(15);
        }
        if (below(3) == 0) {
            return "near " + (below(30) == 0 ? 8 : below(8));
        }
        String[] signs = {"==", "!=", "<", "<="};
        return sum(0) + " " + signs[below(4)] + " " + sum(0);
    }

    private String sum(int depth) {
        StringBuilder text = new StringBuilder(unit(depth));
        String[] signs = {" + ", " - ", " * "};
        for (int i = below(3); i > 0; i--) {
            text.append(signs[below(3)]).append(unit(depth));
        }
        return text.toString();
    }

    private String unit(int depth) {
        String[] variables = {"district", "quality", "audience", "shown", "unseen", "late"};
        int dice = below(6);
        if (dice == 0 && depth < 8) {
            return "( " + sum(depth + 1) + " )";
        }
        return dice < 4 ? variables[below(6)] : String.valueOf(below(4) == 0 ? below(10000) : below(15));
    }

    /** Texts at the edges of the room: campaigns, clauses, brackets, tokens. */
    private String crowdedText() {
        StringBuilder text = new StringBuilder();
        switch (below(4)) {
            case 0 -> {
                int campaigns = 7 + below(4);
                for (int c = 0; c < campaigns; c++) {
                    text.append("campaign n").append((char) ('a' + c)).append(" from 0 until 1;want 1 in 0 worth ")
                            .append(below(9)).append(";end ");
                }
            }
            case 1 -> {
                int clauses = 38 + below(5);
                text.append("campaign a from 0 until 26;");
                for (int i = 0; i < clauses; i++) {
                    text.append("bar near ").append(below(8)).append(';');
                }
                text.append(below(5) == 0 ? "want 1" : "end");
            }
            case 2 -> {
                int depth = 5 + below(3);
                text.append("campaign a from 0 until 26;bar ").append("(1+".repeat(depth)).append('3')
                        .append(")".repeat(depth)).append("<4;bar (1)+(2)<((((((9))))))*(2);end");
            }
            default -> {
                text.append("campaign a from 0 until 26;bar 1");
                int more = 293 + below(4);
                text.append("+1".repeat(more)).append(below(2) == 0 ? "<=" : "<").append("9;end");
                text.append(below(3) == 0 ? " end" : "");
            }
        }
        return text.toString();
    }

    private void callSomething() {
        int board = around(model.count(0));
        int fortnight = below(9) == 0 ? around(26) : below(4);
        int n = below(3) == 0 ? around(model.count(1) + 1) : model.count(1);
        int campaign = around(model.count(2));
        int what = around(5);
        switch (below(16)) {
            case 0, 1 -> same("give(" + fortnight + "," + n + ")", house.give(fortnight, n), model.give(fortnight, n));
            case 2, 3 -> same("mend(" + fortnight + "," + n + ")", house.mend(fortnight, n), model.mend(fortnight, n));
            case 4, 5, 6 -> {
                int kind = below(6) == 0 ? around(5) : below(4);
                int day = kind == 4 ? around(1) : around(14);
                same("fact(" + kind + "," + board + "," + fortnight + "," + day + ")",
                        house.fact(kind, board, fortnight, day), model.fact(kind, board, fortnight, day));
            }
            case 7 -> same("given(" + board + "," + fortnight + "," + what + ")",
                    house.given(board, fortnight, what), model.given(board, fortnight, what));
            case 8 -> {
                same("may(" + board + "," + campaign + ")", house.may(board, campaign), model.may(board, campaign));
                same("bar(" + board + "," + campaign + ")", house.bar(board, campaign), model.bar(board, campaign));
            }
            case 9 -> {
                int district = around(6);
                same("lacks(" + campaign + "," + fortnight + "," + district + ")",
                        house.lacks(campaign, fortnight, district), model.lacks(campaign, fortnight, district));
            }
            case 10 -> {
                int asked = below(2) == 0 ? what : 18 + below(18);
                same("state(" + board + "," + fortnight + "," + n + "," + asked + ")",
                        house.state(board, fortnight, n, asked), model.state(board, fortnight, n, asked));
            }
            case 11 -> same("refund(" + campaign + "," + fortnight + "," + n + ")",
                    house.refund(campaign, fortnight, n), model.refund(campaign, fortnight, n));
            case 12 -> same("ground(" + board + "," + fortnight + "," + n + ")",
                    house.ground(board, fortnight, n), model.ground(board, fortnight, n));
            case 13 -> same("reach(" + campaign + "," + fortnight + "," + n + ")",
                    house.reach(campaign, fortnight, n), model.reach(campaign, fortnight, n));
            case 14 -> {
                int asked = around(7);
                same("count(" + asked + ")", house.count(asked), model.count(asked));
            }
            default -> changeSomething();
        }
        compareGivings();
    }

    private void changeSomething() {
        if (below(4) == 0) {
            addBoard();
            return;
        }
        int district = around(6);
        int v = around(10);
        same("pace(" + district + "," + v + ")", house.pace(district, v) ? 1 : 0, model.pace(district, v) ? 1 : 0);
    }

    private void compareGivings() {
        int fortnight = below(4);
        for (int b = 0; b < model.count(0); b++) {
            for (int what = 0; what < 4; what++) {
                same("given(" + b + "," + fortnight + "," + what + ")",
                        house.given(b, fortnight, what), model.given(b, fortnight, what));
            }
        }
    }
}
