/** What came of the boards by days: shown, unseen, due, late, refunds and audiences (parts I and III, promises 15 to 18). */
public final class DaysBoundariesTest extends Checks {
    private static final int HUNG = 0;
    private static final int SEEN = 1;
    private static final int AMISS = 2;
    private static final int TORN = 3;
    private static final int LOST = 4;
    private static final String ONE_WANT = "campaign a from 0 until 26;want 9 in 0 worth 10;end";

    public static void main(String[] args) {
        shownByTheLatestDay();
        shownByTheLastTold();
        shownOnDaysUpToThisOne();
        unseenFromTheDayItIsHung();
        unseenUntilAProofIsTold();
        ofItsBoardAndFortnight();
        asKnownByN();
        dayByDay();
        lostByThen();
        stateOthers();
        stateNoSuchOnes();
        dueOfGivenOnes();
        dueByPace();
        dueOfItsDistrict();
        lateLessDue();
        lateNever();
        lateByTheFirstDay();
        lateOfWhatIsNotGiven();
        refundWholePart();
        refundOfEachBoard();
        refundByTheFirst();
        refundWithoutOne();
        refundOfDays();
        refundAsKnown();
        refundNoSuchOnes();
        groundOfGivenOnes();
        groundNoSuchOnes();
        reachGreatestOfADistrict();
        reachOfShownOnes();
        reachOfItsOwn();
        reachNoSuchOnes();
        finish(DaysBoundariesTest.class);
    }

    private static final int[][] NO_FACTS = {};

    /** One board; facts as kind and day, in the order in which they are told. */
    private static void dueLooks(String looks, int[]... facts) {
        PasteHouse house = new PasteHouse();
        addBoards(house, 0);
        StringBuilder told = new StringBuilder();
        for (int[] fact : facts) {
            house.fact(fact[0], 0, 3, fact[1]);
            told.append(" (").append(fact[0]).append(", day ").append(fact[1]).append(')');
        }
        int shown = 0;
        int unseen = 0;
        for (int day = 0; day < 14; day++) {
            int look = looks.charAt(day) - '0';
            due("the look on day " + day + " by" + told, house.state(0, 3, facts.length, 20 + day), look);
            shown += look == 1 ? 1 : 0;
            unseen += look == 2 ? 1 : 0;
        }
        due("days shown by" + told, house.state(0, 3, facts.length, 0), shown);
        due("days unseen by" + told, house.state(0, 3, facts.length, 1), unseen);
    }

    private static int[] on(int kind, int day) {
        return new int[] {kind, day};
    }

    private static void shownByTheLatestDay() {
        sentence("SHOWN if of its SEEN, AMISS, TORN .. the one of the latest DAY .. is SEEN");
        dueLooks("00000000000000", NO_FACTS);
        dueLooks("11111111111111", on(SEEN, 0));
        dueLooks("00000000000001", on(SEEN, 13));
        dueLooks("00001111111111", on(SEEN, 4));
        dueLooks("00001111000000", on(SEEN, 4), on(AMISS, 8));
        dueLooks("00001111000000", on(SEEN, 4), on(TORN, 8));
        // The latest day counts, not the last told.
        dueLooks("00001111000000", on(TORN, 8), on(SEEN, 4));
        dueLooks("00000000111111", on(SEEN, 8), on(AMISS, 4));
        dueLooks("11111111111110", on(SEEN, 0), on(TORN, 13));
        dueLooks("10111111111111", on(SEEN, 2), on(AMISS, 1), on(SEEN, 0));
        dueLooks("01010101010101", on(AMISS, 0), on(SEEN, 1), on(TORN, 2), on(SEEN, 3), on(AMISS, 4), on(SEEN, 5), on(TORN, 6),
                on(SEEN, 7), on(AMISS, 8), on(SEEN, 9), on(TORN, 10), on(SEEN, 11), on(AMISS, 12), on(SEEN, 13));
    }

    private static void shownByTheLastTold() {
        sentence("(of the same DAY the last told)");
        dueLooks("00000000000000", on(SEEN, 5), on(AMISS, 5));
        dueLooks("00000111111111", on(AMISS, 5), on(SEEN, 5));
        dueLooks("00000000000000", on(SEEN, 5), on(TORN, 5));
        dueLooks("00000111111111", on(TORN, 5), on(SEEN, 5));
        dueLooks("00000111111111", on(SEEN, 5), on(AMISS, 5), on(SEEN, 5));
        dueLooks("00000001111111", on(SEEN, 5), on(SEEN, 7), on(AMISS, 5));
        dueLooks("10000000000000", on(SEEN, 0), on(SEEN, 1), on(TORN, 1));
        dueLooks("00000000000001", on(AMISS, 13), on(SEEN, 13));
    }

    private static void shownOnDaysUpToThisOne() {
        sentence("in that FORTNIGHT on DAYS up to this one");
        dueLooks("00000010000000", on(SEEN, 6), on(AMISS, 7));
        dueLooks("00000011111111", on(AMISS, 5), on(SEEN, 6));
        dueLooks("00000011111110", on(SEEN, 6), on(AMISS, 13));
        dueLooks("01111111111111", on(AMISS, 0), on(SEEN, 1));
        // Being hung makes nothing shown, and ends nothing.
        dueLooks("00000011111111", on(SEEN, 6), on(HUNG, 9));
    }

    private static void unseenFromTheDayItIsHung() {
        sentence("UNSEEN, if it is HUNG on a DAY up to this one");
        dueLooks("22222222222222", on(HUNG, 0));
        dueLooks("00000000000002", on(HUNG, 13));
        dueLooks("00000022222222", on(HUNG, 6));
        dueLooks("00000022222222", on(HUNG, 6), on(HUNG, 9));
        dueLooks("00000022222222", on(HUNG, 9), on(HUNG, 6));
    }

    private static void unseenUntilAProofIsTold() {
        sentence("UNSEEN .. and none of these three is told of it on such a DAY");
        dueLooks("00222111111111", on(HUNG, 2), on(SEEN, 5));
        dueLooks("00222000000000", on(HUNG, 2), on(AMISS, 5));
        dueLooks("00222000000000", on(HUNG, 2), on(TORN, 5));
        dueLooks("00222000000000", on(TORN, 5), on(HUNG, 2));
        dueLooks("00111111111111", on(HUNG, 2), on(SEEN, 2));
        dueLooks("00000000000000", on(HUNG, 2), on(AMISS, 2));
        dueLooks("00000000000000", on(HUNG, 2), on(TORN, 2));
        dueLooks("00000000000000", on(HUNG, 2), on(TORN, 1));
        dueLooks("00000000000000", on(AMISS, 0), on(HUNG, 0));
        dueLooks("00200000000000", on(HUNG, 2), on(AMISS, 3), on(HUNG, 4));
        dueLooks("22222222222221", on(HUNG, 0), on(SEEN, 13));
        dueLooks("01111111111111", on(SEEN, 1), on(HUNG, 3));
        // Lost is none of the three.
        dueLooks("00222222222222", on(HUNG, 2), on(LOST, 0));
        dueLooks("00111111111111", on(SEEN, 2), on(LOST, 0));
    }

    private static void ofItsBoardAndFortnight() {
        sentence("of a BOARD in a FORTNIGHT on a DAY");
        PasteHouse house = new PasteHouse();
        addBoards(house, 0, 0, 0);
        house.fact(SEEN, 1, 12, 0);
        house.fact(HUNG, 2, 12, 1);
        house.fact(AMISS, 1, 11, 0);
        house.fact(TORN, 1, 13, 0);
        int[][] shown = {{0, 0, 0}, {0, 14, 0}, {0, 0, 0}};
        int[][] unseen = {{0, 0, 0}, {0, 0, 0}, {0, 13, 0}};
        for (int board = 0; board < 3; board++) {
            for (int fortnight = 11; fortnight <= 13; fortnight++) {
                due("shown(" + board + ", " + fortnight + ")", house.state(board, fortnight, 4, 0), shown[board][fortnight - 11]);
                due("unseen(" + board + ", " + fortnight + ")", house.state(board, fortnight, 4, 1), unseen[board][fortnight - 11]);
            }
        }
    }

    private static void asKnownByN() {
        sentence("as KNOWN by n the first n of them are");
        PasteHouse house = houseWith(ONE_WANT);
        addBoards(house, 0);
        house.give(0, 0);
        house.fact(HUNG, 0, 0, 3);
        house.fact(SEEN, 0, 0, 5);
        house.fact(TORN, 0, 0, 5);
        house.fact(HUNG, 0, 0, 1);
        int[][] answers = {{0, 0, 14}, {0, 11, 3}, {9, 2, 3}, {0, 2, 3}, {0, 4, 1}};
        for (int n = 0; n <= 4; n++) {
            for (int what = 0; what < 3; what++) {
                due("state(0, 0, " + n + ", " + what + ")", house.state(0, 0, n, what), answers[n][what]);
            }
        }
    }

    private static void dayByDay() {
        sentence("Promise 15: 20 + d: on DAY d 1 SHOWN, 2 UNSEEN, 0 neither. NONE for others");
        PasteHouse house = new PasteHouse();
        addBoards(house, 0);
        house.fact(HUNG, 0, 0, 0);
        house.fact(SEEN, 0, 0, 13);
        due("what 19", house.state(0, 0, 2, 19), NONE);
        due("what 20: day 0", house.state(0, 0, 2, 20), 2);
        due("what 32: day 12", house.state(0, 0, 2, 32), 2);
        due("what 33: day 13", house.state(0, 0, 2, 33), 1);
        due("what 34", house.state(0, 0, 2, 34), NONE);
    }

    private static void lostByThen() {
        sentence("Promise 15: 3: 1 if it is LOST by then, else 0");
        PasteHouse house = new PasteHouse();
        addBoards(house, 0, 0);
        house.fact(LOST, 1, 25, 0);
        house.fact(LOST, 0, 1, 0);
        house.fact(LOST, 0, 24, 0);
        house.fact(LOST, 1, 0, 0);
        for (int fortnight = 0; fortnight < 26; fortnight++) {
            due("board 0 in " + fortnight + ", known by 1", house.state(0, fortnight, 1, 3), 0);
            due("board 0 in " + fortnight + ", known by 2", house.state(0, fortnight, 2, 3), fortnight >= 1 ? 1 : 0);
            due("board 0 in " + fortnight + ", known by 4", house.state(0, fortnight, 4, 3), fortnight >= 1 ? 1 : 0);
            due("board 1 in " + fortnight + ", known by 3", house.state(1, fortnight, 3, 3), fortnight >= 25 ? 1 : 0);
            due("board 1 in " + fortnight + ", known by 4", house.state(1, fortnight, 4, 3), 1);
        }
    }

    private static void stateOthers() {
        sentence("Promise 15: NONE for others");
        PasteHouse house = new PasteHouse();
        addBoards(house, 0);
        for (int what : new int[] {-1, 4, 5, 10, 19, 34, 40, 2000, MOST, LEAST, LEAST + 19, LEAST + 20, LEAST + 33}) {
            due("state(0, 0, 0, " + what + ")", house.state(0, 0, 0, what), NONE);
        }
        for (int what = 0; what < 4; what++) {
            due("state(0, 0, 0, " + what + ")", house.state(0, 0, 0, what), 0);
        }
    }

    private static void stateNoSuchOnes() {
        sentence("Promise 15: NONE for others (no such BOARD, FORTNIGHT, n)");
        PasteHouse house = new PasteHouse();
        addBoards(house, 0, 0);
        house.fact(SEEN, 1, 25, 0);
        for (int what : new int[] {0, 1, 2, 3, 20, 33}) {
            for (int board : new int[] {-1, 2, 9, LEAST, MOST}) {
                due("state(" + board + ", 0, 0, " + what + ")", house.state(board, 0, 0, what), NONE);
            }
            for (int fortnight : new int[] {-1, 26, LEAST, MOST}) {
                due("state(0, " + fortnight + ", 0, " + what + ")", house.state(0, fortnight, 0, what), NONE);
            }
            for (int n : new int[] {-1, 2, 300, 301, LEAST, MOST}) {
                due("state(0, 0, " + n + ", " + what + ")", house.state(0, 0, n, what), NONE);
            }
        }
        due("state(1, 25, 1, 0)", house.state(1, 25, 1, 0), 14);
        due("state(1, 25, 0, 0)", house.state(1, 25, 0, 0), 0);
    }

    private static void dueOfGivenOnes() {
        sentence("DUE of a BOARD that is given: of its DISTRICT's given ones, by numbers, from 0 on, its place by PACE");
        PasteHouse house = houseWith("campaign a from 0 until 26;want 9 in 0 worth 10;bar near 0;end");
        for (int board = 0; board < 9; board++) {
            house.board(0, 5, 100, board == 0 || board == 4 ? 1 : 0, false);
        }
        house.pace(0, 2);
        due("given(1, 0, 3) ahead of give", house.given(1, 0, 3), NONE);
        due("give(0, 0)", house.give(0, 0), 70);
        int[] days = {NONE, 0, 0, 1, NONE, 1, 2, 2, 3};
        for (int board = 0; board < 9; board++) {
            due("given(" + board + ", 0, 3)", house.given(board, 0, 3), days[board]);
        }
        house.fact(LOST, 1, 0, 0);
        due("a lost one is given until it is mended", house.given(3, 0, 3), 1);
        due("mend(0, 1)", house.mend(0, 1), 0);
        due("then it makes room", house.given(3, 0, 3), 0);
        due("given(8, 0, 3)", house.given(8, 0, 3), 2);
        due("given(1, 0, 3)", house.given(1, 0, 3), NONE);
    }

    private static void dueByPace() {
        sentence("its place by PACE (divided, the whole part): the DAY");
        PasteHouse house = houseWith(ONE_WANT);
        addBoards(house, 0, 0, 0, 0, 0, 0, 0, 0, 0);
        due("give(0, 0)", house.give(0, 0), 90);
        for (int pace = 1; pace <= 9; pace++) {
            due("pace(0, " + pace + ")", house.pace(0, pace), true);
            for (int board = 0; board < 9; board++) {
                due("given(" + board + ", 0, 3) by pace " + pace, house.given(board, 0, 3), board / pace);
            }
        }
    }

    private static void dueOfItsDistrict() {
        sentence("DUE .. of its DISTRICT's given ones");
        PasteHouse house = houseWith("campaign a from 0 until 26;want 2 in 0 worth 10;want 9 in 1 worth 10;end "
                + "campaign b from 0 until 26;want 2 in 0 worth 9;end");
        addBoards(house, 0, 1, 0, 1, 0, 1, 0, 1, 2);
        house.pace(0, 1);
        house.pace(1, 2);
        due("give(0, 0)", house.give(0, 0), 78);
        // The campaigns of a district share its man.
        int[] days = {0, 0, 1, 0, 2, 1, 3, 1, NONE};
        for (int board = 0; board < 9; board++) {
            due("given(" + board + ", 0, 3)", house.given(board, 0, 3), days[board]);
        }
    }

    private static void lateLessDue() {
        sentence("LATE: the first DAY on which it was HUNG .. less DUE, at least 0");
        for (int day = 0; day < 14; day++) {
            PasteHouse house = houseWith(ONE_WANT);
            addBoards(house, 0, 0, 0, 0, 0);
            house.pace(0, 1);
            house.give(25, 0);
            for (int board = 0; board < 5; board++) {
                house.fact(HUNG, board, 25, day);
                due("late of board " + board + ", hung on day " + day, house.state(board, 25, board + 1, 2), Math.max(0, day - board));
            }
        }
    }

    private static void lateNever() {
        sentence("LATE: the first DAY on which it was HUNG (none: 14)");
        PasteHouse house = houseWith(ONE_WANT);
        addBoards(house, 0, 0, 0, 0, 0, 0, 0, 0, 0);
        house.pace(0, 1);
        house.give(0, 0);
        for (int board = 0; board < 9; board++) {
            due("late of board " + board + ", never hung", house.state(board, 0, 0, 2), 14 - board);
        }
        house.fact(HUNG, 0, 1, 0);
        house.fact(SEEN, 0, 0, 0);
        house.fact(HUNG, 1, 0, 0);
        due("hung in another fortnight, or seen, or another one hung", house.state(0, 0, 3, 2), 14);
        house.fact(HUNG, 0, 0, 13);
        due("hung on the last day", house.state(0, 0, 4, 2), 13);
    }

    private static void lateByTheFirstDay() {
        sentence("LATE: the first DAY on which it was HUNG");
        PasteHouse house = houseWith(ONE_WANT);
        addBoards(house, 0);
        house.give(0, 0);
        int[] days = {9, 11, 4, 6, 4, 0, 3};
        int[] lates = {9, 9, 4, 4, 4, 0, 0};
        for (int i = 0; i < days.length; i++) {
            house.fact(HUNG, 0, 0, days[i]);
            due("late as known by " + (i + 1), house.state(0, 0, i + 1, 2), lates[i]);
        }
        due("late as known by 0", house.state(0, 0, 0, 2), 14);
        house.fact(LOST, 0, 0, 0);
        due("lost, and given still", house.state(0, 0, 8, 2), 0);
    }

    private static void lateOfWhatIsNotGiven() {
        sentence("Promise 15: 2: LATE (0 if it is not given)");
        PasteHouse house = houseWith("campaign a from 0 until 26;want 1 in 0 worth 10;end");
        addBoards(house, 0, 0);
        house.fact(HUNG, 1, 0, 9);
        due("nothing is given in it", house.state(0, 0, 1, 2), 0);
        due("nothing is given in it", house.state(1, 0, 1, 2), 0);
        due("give(0, 0)", house.give(0, 0), 10);
        due("given, never hung", house.state(0, 0, 1, 2), 14);
        due("given to none, hung on day 9", house.state(1, 0, 1, 2), 0);
        due("nothing is given in another one", house.state(0, 1, 1, 2), 0);
    }

    private static void refundWholePart() {
        sentence("its worth times the INT of its first refund whose COND holds, by 100 (the whole part");
        int[][] cases = {{1, 99, 0}, {1, 100, 1}, {100, 1, 1}, {99, 1, 0}, {101, 1, 1}, {199, 1, 1}, {200, 1, 2}, {3, 33, 0}, {3, 34, 1},
            {9999, 100, 9999}, {9999, 99, 9899}, {9999, 1, 99}, {9999, 0, 0}, {0, 100, 0}, {50, 50, 25}, {51, 50, 25}};
        for (int[] c : cases) {
            PasteHouse house = houseWith("campaign a from 0 until 26;want 1 in 0 worth " + c[0] + ";refund " + c[1] + " if 1==1;end");
            addBoards(house, 0);
            due("give(0, 0)", house.give(0, 0), c[0]);
            due(c[1] + " of " + c[0], house.refund(0, 0, 0), c[2]);
            due("ground(0, 0, 0)", house.ground(0, 0, 0), 1);
        }
    }

    private static void refundOfEachBoard() {
        sentence("REFUND of a CAMPAIGN for a FORTNIGHT: for each BOARD that is given to it");
        PasteHouse house = houseWith("campaign a from 0 until 26;want 9 in 0 worth 199;want 1 in 1 worth 100;refund 1 if 1==1;end "
                + "campaign b from 0 until 26;want 9 in 2 worth 1000;refund 1 if 1==1;end campaign c from 0 until 26;refund 100 if 1==1;end");
        addBoards(house, 0, 0, 0, 1, 1, 2, 2, 2, 3);
        due("give(0, 0)", house.give(0, 0), 3 * 199 + 100 + 3000);
        due("the whole part of each board's", house.refund(0, 0, 0), 3 + 1);
        due("another's", house.refund(1, 0, 0), 30);
        due("to whom none is given", house.refund(2, 0, 0), 0);
    }

    private static void refundByTheFirst() {
        sentence("its first refund whose COND holds");
        PasteHouse house = houseWith("campaign a from 0 until 26;refund 0 if quality==1;refund 10 if quality<=2;want 9 in 0 worth 100;"
                + "refund 30 if quality<=3;refund 100 if quality<=3;end campaign b from 0 until 26;refund 70 if 1==1;end");
        int[] qualities = {1, 2, 3, 4};
        for (int quality : qualities) {
            house.board(0, quality, 100, 0, false);
        }
        due("give(0, 0)", house.give(0, 0), 400);
        int[] grounds = {0, 1, 3, NONE};
        for (int board = 0; board < 4; board++) {
            due("ground(" + board + ", 0, 0)", house.ground(board, 0, 0), grounds[board]);
        }
        due("refund(0, 0, 0)", house.refund(0, 0, 0), 0 + 10 + 30);
        due("refund(1, 0, 0)", house.refund(1, 0, 0), 0);
    }

    private static void refundWithoutOne() {
        sentence("0 without one");
        PasteHouse house = houseWith("campaign a from 0 until 26;want 9 in 0 worth 100;end "
                + "campaign b from 0 until 26;want 9 in 1 worth 100;refund 100 if 1==0;bar 1==2;end");
        addBoards(house, 0, 1);
        due("give(0, 0)", house.give(0, 0), 200);
        due("no refund is told", house.refund(0, 0, 0), 0);
        due("none holds", house.refund(1, 0, 0), 0);
        due("ground(0, 0, 0)", house.ground(0, 0, 0), NONE);
        due("ground(1, 0, 0)", house.ground(1, 0, 0), NONE);
    }

    private static void refundOfDays() {
        sentence("VARS are of a BOARD; shown, unseen, late of what came of it in the FORTNIGHT");
        PasteHouse house = houseWith("campaign a from 0 until 26;want 9 in 0 worth 100;refund 1 if shown==5 and unseen==3 and late==5;"
                + "refund 2 if shown==0 and unseen==0 and late==14;refund 4 if shown==14 and late==14;refund 8 if unseen==14 and late==0;"
                + "refund 16 if near 7 and district==0 and quality==9 and audience==1000;end");
        house.board(0, 5, 100, 0, false);
        house.board(0, 5, 100, 0, false);
        house.board(0, 5, 100, 0, false);
        house.board(0, 5, 100, 0, false);
        house.board(0, 9, 1000, 128, false);
        house.pace(0, 9);
        house.fact(HUNG, 0, 7, 5);
        house.fact(SEEN, 0, 7, 8);
        house.fact(TORN, 0, 7, 13);
        house.fact(SEEN, 2, 7, 0);
        house.fact(HUNG, 3, 7, 0);
        house.fact(HUNG, 4, 7, 1);
        due("give(7, 0)", house.give(7, 0), 500);
        int[] grounds = {1, 2, 3, 4, 5};
        for (int board = 0; board < 5; board++) {
            due("ground(" + board + ", 7, 6)", house.ground(board, 7, 6), grounds[board]);
        }
        due("refund(0, 7, 6)", house.refund(0, 7, 6), 31);
        due("give(8, 0)", house.give(8, 0), 500);
        due("in another fortnight nothing came of them", house.refund(0, 8, 6), 10);
        house.pace(0, 1);
        due("the pace changes when it is due: board 3 is hung ahead, board 1 is late by 13", house.ground(1, 7, 6), NONE);
        due("board 3 is not late", house.ground(3, 7, 6), 4);
    }

    private static void refundAsKnown() {
        sentence("REFUND of a CAMPAIGN for a FORTNIGHT, as KNOWN by n");
        PasteHouse house = houseWith("campaign a from 0 until 26;want 9 in 0 worth 100;refund 50 if shown<10;end");
        addBoards(house, 0, 0);
        due("give(25, 0)", house.give(25, 0), 200);
        house.fact(SEEN, 0, 25, 5);
        house.fact(SEEN, 0, 25, 4);
        house.fact(SEEN, 1, 25, 0);
        house.fact(AMISS, 0, 25, 13);
        int[] refunds = {100, 100, 50, 0, 50};
        for (int n = 0; n <= 4; n++) {
            due("refund(0, 25, " + n + ")", house.refund(0, 25, n), refunds[n]);
            due("ground(0, 25, " + n + ")", house.ground(0, 25, n), n == 2 || n == 3 ? NONE : 1);
        }
    }

    private static PasteHouse twoCampaigns() {
        PasteHouse house = houseWith("campaign a from 0 until 26;want 1 in 0 worth 100;refund 50 if 1==1;end "
                + "campaign b from 0 until 26;want 1 in 1 worth 10;refund 10 if 1==1;end");
        addBoards(house, 0, 1, 2);
        house.fact(SEEN, 0, 0, 0);
        house.fact(SEEN, 1, 25, 0);
        return house;
    }

    private static void refundNoSuchOnes() {
        sentence("Promise 16: NONE: no such ones, or nothing is GIVEN in it");
        PasteHouse house = twoCampaigns();
        due("nothing is given in it", house.refund(0, 0, 0), NONE);
        house.give(0, 0);
        house.give(25, 0);
        for (int campaign : new int[] {-1, 2, 8, LEAST, MOST}) {
            due("refund(" + campaign + ", 0, 0)", house.refund(campaign, 0, 0), NONE);
        }
        for (int fortnight : new int[] {-1, 1, 24, 26, LEAST, MOST}) {
            due("refund(0, " + fortnight + ", 0)", house.refund(0, fortnight, 0), NONE);
        }
        for (int n : new int[] {-1, 3, 300, 301, LEAST, MOST}) {
            due("refund(0, 0, " + n + ")", house.refund(0, 0, n), NONE);
        }
        due("refund(0, 0, 2)", house.refund(0, 0, 2), 50);
        due("refund(1, 25, 0)", house.refund(1, 25, 0), 1);
    }

    private static void groundOfGivenOnes() {
        sentence("Promise 17: The CLAUSE of the refund by which a BOARD that is given counts; NONE: none, it is not given");
        PasteHouse house = twoCampaigns();
        due("nothing is given in it", house.ground(0, 0, 0), NONE);
        house.give(0, 0);
        due("ground(0, 0, 0)", house.ground(0, 0, 0), 1);
        due("ground(1, 0, 0)", house.ground(1, 0, 0), 3);
        due("ground(2, 0, 0): given to none", house.ground(2, 0, 0), NONE);
        due("ground(0, 1, 0): nothing is given in it", house.ground(0, 1, 0), NONE);
        house.fact(LOST, 0, 0, 0);
        due("ground(0, 0, 3): lost, and given still", house.ground(0, 0, 3), 1);
        due("mend(0, 3)", house.mend(0, 3), 0);
        due("ground(0, 0, 3): not given any more", house.ground(0, 0, 3), NONE);
        due("refund(0, 0, 3)", house.refund(0, 0, 3), 0);
    }

    private static void groundNoSuchOnes() {
        sentence("Promise 17: NONE: .. or no such ones");
        PasteHouse house = twoCampaigns();
        house.give(0, 0);
        house.give(25, 0);
        for (int board : new int[] {-1, 3, 8, 9, LEAST, MOST}) {
            due("ground(" + board + ", 0, 0)", house.ground(board, 0, 0), NONE);
        }
        for (int fortnight : new int[] {-1, 1, 24, 26, LEAST, MOST}) {
            due("ground(0, " + fortnight + ", 0)", house.ground(0, fortnight, 0), NONE);
        }
        for (int n : new int[] {-1, 3, 300, 301, LEAST, MOST}) {
            due("ground(0, 0, " + n + ")", house.ground(0, 0, n), NONE);
        }
        due("ground(0, 0, 2)", house.ground(0, 0, 2), 1);
        due("ground(1, 25, 0)", house.ground(1, 25, 0), 3);
    }

    private static void reachGreatestOfADistrict() {
        sentence("REACH: of each DISTRICT the greatest AUDIENCE of its BOARDS .. together");
        PasteHouse house = houseWith("campaign a from 0 until 26;want 9 in 0 worth 1;want 9 in 1 worth 1;want 9 in 2 worth 1;"
                + "want 9 in 3 worth 1;want 9 in 4 worth 1;want 9 in 5 worth 1;end");
        int[] districts = {0, 0, 0, 1, 2, 3, 4, 5, 5};
        int[] audiences = {7, 9, 8, 0, 100, 1000, 999, 1, 1};
        int[] sums = {7, 9, 9, 9, 109, 1109, 2108, 2109, 2109};
        for (int board = 0; board < 9; board++) {
            house.board(districts[board], 5, audiences[board], 0, false);
            house.fact(SEEN, board, 25, 13);
        }
        due("give(25, 0)", house.give(25, 0), 9);
        due("reach(0, 25, 0)", house.reach(0, 25, 0), 0);
        for (int board = 0; board < 9; board++) {
            due("reach(0, 25, " + (board + 1) + ")", house.reach(0, 25, board + 1), sums[board]);
        }
        PasteHouse most = houseWith("campaign a from 0 until 26;want 9 in 0 worth 1;want 9 in 1 worth 1;want 9 in 2 worth 1;"
                + "want 9 in 3 worth 1;want 9 in 4 worth 1;want 9 in 5 worth 1;end");
        for (int district = 0; district < 6; district++) {
            most.board(district, 5, 1000, 0, false);
            most.fact(SEEN, district, 0, 0);
        }
        due("give(0, 0)", most.give(0, 0), 6);
        due("the most that there is", most.reach(0, 0, 6), 6000);
    }

    private static void reachOfShownOnes() {
        sentence("REACH: .. of which some DAY is SHOWN");
        PasteHouse house = houseWith(ONE_WANT);
        addBoards(house, 0);
        house.give(0, 0);
        int[][] facts = {{HUNG, 0}, {SEEN, 13}, {AMISS, 13}, {SEEN, 0}, {TORN, 1}, {TORN, 0}, {LOST, 0}, {SEEN, 0}};
        int[] reaches = {0, 0, 100, 0, 100, 100, 0, 0, 100};
        due("reach(0, 0, 0)", house.reach(0, 0, 0), reaches[0]);
        for (int i = 0; i < facts.length; i++) {
            house.fact(facts[i][0], 0, 0, facts[i][1]);
            due("reach(0, 0, " + (i + 1) + ")", house.reach(0, 0, i + 1), reaches[i + 1]);
        }
        house.fact(SEEN, 0, 1, 0);
        due("in another fortnight nothing is given", house.reach(0, 1, 9), NONE);
    }

    private static void reachOfItsOwn() {
        sentence("REACH: .. of its BOARDS given to the CAMPAIGN");
        PasteHouse house = houseWith("campaign a from 0 until 26;want 1 in 0 worth 2;end campaign b from 0 until 26;want 1 in 0 worth 1;end "
                + "campaign c from 1 until 26;want 1 in 0 worth 1;end");
        house.board(0, 5, 300, 0, false);
        house.board(0, 5, 400, 0, false);
        house.board(0, 5, 500, 0, false);
        for (int board = 0; board < 3; board++) {
            house.fact(SEEN, board, 0, 0);
        }
        due("give(0, 0)", house.give(0, 0), 3);
        due("reach(0, 0, 3)", house.reach(0, 0, 3), 300);
        due("reach(1, 0, 3)", house.reach(1, 0, 3), 400);
        due("reach(2, 0, 3): not in force, nothing is given to it", house.reach(2, 0, 3), 0);
    }

    private static void reachNoSuchOnes() {
        sentence("Promise 18: NONE: no such ones, or nothing is GIVEN in it");
        PasteHouse house = twoCampaigns();
        due("nothing is given in it", house.reach(0, 0, 0), NONE);
        house.give(0, 0);
        house.give(25, 0);
        for (int campaign : new int[] {-1, 2, 8, LEAST, MOST}) {
            due("reach(" + campaign + ", 0, 0)", house.reach(campaign, 0, 0), NONE);
        }
        for (int fortnight : new int[] {-1, 1, 24, 26, LEAST, MOST}) {
            due("reach(0, " + fortnight + ", 0)", house.reach(0, fortnight, 0), NONE);
        }
        for (int n : new int[] {-1, 3, 300, 301, LEAST, MOST}) {
            due("reach(0, 0, " + n + ")", house.reach(0, 0, n), NONE);
        }
        due("reach(0, 0, 1)", house.reach(0, 0, 1), 100);
        due("reach(1, 25, 2)", house.reach(1, 25, 2), 100);
        due("reach(1, 25, 1)", house.reach(1, 25, 1), 0);
    }
}
