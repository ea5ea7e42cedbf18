/** Bars and conditions, ways, the giving, the mending and what is short (part III, promises 9 to 14). */
public final class GivingBoundariesTest extends Checks {
    // The least of 32 bits, and the most.
    private static final String LEAST_INT = "2048*1024*1024";
    private static final String MOST_INT = "(2048*1024*1024-1)";

    public static void main(String[] args) {
        comparisons();
        sumsAndProducts();
        andBindsMore();
        allLiteralsAlike();
        deepest();
        wrapAround();
        marks();
        nothingCameInABar();
        mayByBars();
        mayNoSuchOnes();
        firstBar();
        barNoSuchOnes();
        inForce();
        notMoreThanItSays();
        ofItsDistrictAlone();
        noBarBroken();
        notBesideARival();
        lostBoards();
        lostAsKnown();
        mostWorth();
        mostWorthBesideRivals();
        leastClauseFirst();
        noneBehindAll();
        giveNoSuchOnes();
        giveIsWhatIsGiven();
        full();
        fourAndNone();
        fullGivesNothing();
        mendMovesTheFewest();
        mendFirstByClauses();
        mendMostWorthGoesAhead();
        mendCountsNoLostOnes();
        mendNewBoard();
        mendNoSuchOnes();
        mendNothingGiven();
        givenWhats();
        givenNoSuchOnes();
        lacks();
        lacksNoSuchOnes();
        lacksNotInForce();
        finish(GivingBoundariesTest.class);
    }

    private static void dueHolds(String condition, boolean holds) {
        PasteHouse house = houseWith("campaign a from 0 until 1;bar " + condition + ";end");
        house.board(2, 7, 300, 0x95, false);
        due("may(0, 0) by bar " + condition, house.may(0, 0), holds ? 0 : 1);
        due("bar(0, 0) by bar " + condition, house.bar(0, 0), holds ? 0 : NONE);
    }

    private static void comparisons() {
        sentence("LIT: .. E ('==' | '!=' | '<' | '<=') E");
        String[] variables = {"district", "quality", "audience"};
        int[] values = {2, 7, 300};
        for (int i = 0; i < 3; i++) {
            for (int by = -1; by <= 1; by++) {
                String right = variables[i] + "%s" + (values[i] + by);
                dueHolds(right.replace("%s", "=="), by == 0);
                dueHolds(right.replace("%s", "!="), by != 0);
                dueHolds(right.replace("%s", "<"), by > 0);
                dueHolds(right.replace("%s", "<="), by >= 0);
                String left = (values[i] + by) + "%s" + variables[i];
                dueHolds(left.replace("%s", "<"), by < 0);
                dueHolds(left.replace("%s", "<="), by <= 0);
            }
        }
    }

    private static void sumsAndProducts() {
        sentence("E: PART {('+' | '-') PART}. PART: UNIT {'*' UNIT}. UNIT: INT | VAR | '(' E ')'");
        dueHolds("1+2*3==7", true);
        dueHolds("(1+2)*3==9", true);
        dueHolds("2*3+1==7", true);
        dueHolds("2*3*4==24", true);
        dueHolds("9-4-3==2", true);
        dueHolds("9-(4-3)==8", true);
        dueHolds("9-4+3==8", true);
        dueHolds("9-2*3==3", true);
        dueHolds("2==9-4-3", true);
        dueHolds("7==1+2*3", true);
        dueHolds("8==9-(4-3)", true);
        dueHolds("((((((9))))))-((((((4))))))==5", true);
        dueHolds("(quality-district)*(audience+0)==1500", true);
        dueHolds("0==0", true);
        dueHolds("9999==9999", true);
        dueHolds("9998==9999", false);
        dueHolds("0007==quality", true);
        dueHolds("1-2<0", true);
        dueHolds("1-2==0-1", true);
    }

    private static void andBindsMore() {
        sentence("COND: ALL {'or' ALL}. ALL: LIT {'and' LIT}");
        String[] literals = {"1==0", "1==1"};
        for (int bits = 0; bits < 16; bits++) {
            boolean a = (bits & 1) != 0;
            boolean b = (bits & 2) != 0;
            boolean c = (bits & 4) != 0;
            boolean d = (bits & 8) != 0;
            String[] l = {literals[bits & 1], literals[bits >> 1 & 1], literals[bits >> 2 & 1], literals[bits >> 3 & 1]};
            dueHolds(l[0] + " or " + l[1] + " and " + l[2] + " or " + l[3], a || b && c || d);
            dueHolds(l[0] + " and " + l[1] + " or " + l[2] + " and " + l[3], a && b || c && d);
            dueHolds(l[0] + " and " + l[1] + " and " + l[2] + " or " + l[3], a && b && c || d);
        }
    }

    /** Literals of every kind hold alike, whichever stands beside them. */
    private static void allLiteralsAlike() {
        sentence("LIT: 'near' INT | E ('==' | '!=' | '<' | '<=') E");
        String[] holding = {"near 0", "near 7", "quality==7", "quality!=8", "quality<8", "quality<=7", "0<audience"};
        String[] failing = {"near 1", "quality==8", "quality!=7", "quality<7", "quality<=6"};
        for (String one : holding) {
            dueHolds(one, true);
            for (String other : holding) {
                dueHolds(one + " and " + other, true);
                dueHolds(one + " or " + other, true);
            }
            for (String other : failing) {
                dueHolds(one + " and " + other, false);
                dueHolds(other + " and " + one, false);
                dueHolds(one + " or " + other, true);
                dueHolds(other + " or " + one, true);
            }
        }
        for (String one : failing) {
            for (String other : failing) {
                dueHolds(one + " or " + other, false);
            }
        }
    }

    /** All that can wait for its right side at once: or, and, a comparison, and a sum and a product in each bracket. */
    private static void deepest() {
        sentence("a 7th ( within one another");
        String left = "1+2*(1+2*(1+2*(1+2*(1+2*(1+2*(1+2*3))))))";
        dueHolds(left + "==511", true);
        dueHolds(left + "==510", false);
        dueHolds("near 1 or near 0 and 511==" + left, true);
        dueHolds("near 1 or near 0 and 510==" + left, false);
        dueHolds("near 1 or near 1 and 511==" + left, false);
        dueHolds("near 0 or near 1 and 510==" + left, true);
        dueHolds("near 1 or near 0 and " + left + "==" + left, true);
        dueHolds("((((((1-2)-3)-4)-5)-6)-7)==0-26", true);
        dueHolds("(1-(2-(3-(4-(5-(6-7))))))==4", true);
    }

    private static void wrapAround() {
        sentence("Ints of 32 bits that wrap");
        dueHolds("0<" + MOST_INT, true);
        dueHolds(LEAST_INT + "<0", true);
        dueHolds(MOST_INT + "+1<0", true);
        dueHolds(MOST_INT + "+1==" + LEAST_INT, true);
        dueHolds(LEAST_INT + "-1==" + MOST_INT, true);
        dueHolds("0-" + LEAST_INT + "==" + LEAST_INT, true);
        dueHolds("0-" + MOST_INT + "-1==" + LEAST_INT, true);
        dueHolds(MOST_INT + "*2==0-2", true);
        dueHolds(MOST_INT + "*" + MOST_INT + "==1", true);
        dueHolds("256*256*256*256==0", true);
        dueHolds("4096*1024*1024+5==5", true);
        // 999,700,029,999 less 233 times 2 to the 32nd.
        dueHolds("9999*9999*9999==0-1027*1000*1000-349*1000-969", true);
        // A comparison is none of the difference, which would wrap.
        dueHolds(LEAST_INT + "<" + MOST_INT, true);
        dueHolds(LEAST_INT + "<=" + MOST_INT, true);
        dueHolds(MOST_INT + "<" + LEAST_INT, false);
        dueHolds(MOST_INT + "<=" + LEAST_INT, false);
        dueHolds(LEAST_INT + "<=" + LEAST_INT, true);
        dueHolds(MOST_INT + "<" + MOST_INT, false);
    }

    private static void marks() {
        sentence("near k: MARK bit k");
        for (int k = 0; k < 8; k++) {
            dueHolds("near " + k, (0x95 >> k & 1) == 1);
        }
        dueHolds("near 0 and near 7", true);
        dueHolds("near 1 or near 6", false);
    }

    private static void nothingCameInABar() {
        sentence("shown, unseen, late of what came of it in the FORTNIGHT (0 in a bar)");
        PasteHouse house = houseWith("campaign a from 0 until 2;want 9 in 0 worth 1;bar 0<shown;bar 0<unseen;bar 0<late;bar late!=0;"
                + "refund 100 if shown==13 and unseen==1 and late==0;refund 50 if late==14;end");
        addBoards(house, 0, 0);
        due("give(0, 0)", house.give(0, 0), 2);
        house.fact(0, 0, 0, 0);
        house.fact(1, 0, 0, 1);
        due("state(0, 0, 2, 0)", house.state(0, 0, 2, 0), 13);
        due("state(1, 0, 2, 2)", house.state(1, 0, 2, 2), 14);
        due("ground(0, 0, 2)", house.ground(0, 0, 2), 5);
        due("may(0, 0) behind ground(0, 0, 2)", house.may(0, 0), 1);
        due("ground(1, 0, 2)", house.ground(1, 0, 2), 6);
        due("may(1, 0) behind ground(1, 0, 2)", house.may(1, 0), 1);
        due("bar(1, 0)", house.bar(1, 0), NONE);
        house.fact(0, 1, 0, 13);
        for (int board = 0; board < 2; board++) {
            house.ground(board, 0, 3);
            due("bar(0, 0) behind ground(" + board + ", 0, 3)", house.bar(0, 0), NONE);
            house.ground(board, 0, 3);
            due("give(0, 3) behind ground(" + board + ", 0, 3)", house.give(0, 3), 2);
            house.ground(board, 0, 3);
            due("mend(0, 3) behind ground(" + board + ", 0, 3)", house.mend(0, 3), 0);
            dueGiven(house, 0, 0, 0);
        }
        PasteHouse zero = houseWith("campaign a from 0 until 2;bar shown+unseen+late==0;end");
        addBoards(zero, 0);
        due("bar(0, 0) by what is nought", zero.bar(0, 0), 0);
    }

    private static void mayByBars() {
        sentence("Promise 12: Whether a BOARD may hang for a CAMPAIGN by its bars: 1; 0: the first bar's CLAUSE is told by bar()");
        PasteHouse house = houseWith("campaign a from 0 until 1;end campaign b from 5 until 6;bar quality<5;end "
                + "campaign c from 0 until 1;bar quality<4;bar quality<6;beside a;refund 1 if 1==1;end "
                + "campaign d from 0 until 1;refund 1 if 1==1;want 1 in 3 worth 1;end");
        house.board(0, 5, 100, 0, false);
        house.board(0, 4, 100, 0, false);
        due("no bars", house.may(0, 0), 1);
        due("a bar that does not hold", house.may(0, 1), 1);
        due("a bar that holds, of a campaign that begins later", house.may(1, 1), 0);
        due("the second holds", house.may(0, 2), 0);
        due("a refund is no bar, another district's want is none", house.may(0, 3), 1);
        house.fact(4, 0, 0, 0);
        due("of a lost board likewise", house.may(0, 0), 1);
        due("of a lost board likewise", house.may(0, 2), 0);
    }

    private static void mayNoSuchOnes() {
        sentence("Promise 12: NONE: no such ones");
        PasteHouse house = houseWith("campaign a from 0 until 1;bar 1==1;end campaign b from 0 until 1;end");
        addBoards(house, 0, 0);
        int[] others = {-1, 2, 8, 9, LEAST, MOST};
        for (int other : others) {
            due("may(" + other + ", 0)", house.may(other, 0), NONE);
            due("may(" + other + ", 1)", house.may(other, 1), NONE);
            due("may(0, " + other + ")", house.may(0, other), NONE);
            due("may(" + other + ", " + other + ")", house.may(other, other), NONE);
        }
        due("may(1, 0)", house.may(1, 0), 0);
        due("may(1, 1)", house.may(1, 1), 1);
    }

    private static void firstBar() {
        sentence("Promise 13: The CLAUSE of the first bar of a CAMPAIGN that holds of a BOARD; NONE: none");
        PasteHouse house = houseWith("campaign a from 0 until 1;bar quality==1;want 1 in 0 worth 1;bar quality<3;bar quality<4;end "
                + "campaign b from 0 until 1;bar quality<2;refund 1 if 1==1;bar 9<=quality;end");
        int[][] bars = {{0, 4}, {2, NONE}, {3, NONE}, {NONE, NONE}, {NONE, 6}};
        int[] qualities = {1, 2, 3, 4, 9};
        for (int board = 0; board < 5; board++) {
            house.board(0, qualities[board], 100, 0, false);
            for (int campaign = 0; campaign < 2; campaign++) {
                due("bar(" + board + ", " + campaign + ")", house.bar(board, campaign), bars[board][campaign]);
                due("may(" + board + ", " + campaign + ")", house.may(board, campaign), bars[board][campaign] == NONE ? 1 : 0);
            }
        }
        PasteHouse last = houseWith("campaign a from 0 until 1;" + "bar 1==0;".repeat(39) + "bar 1==1;end");
        addBoards(last, 0);
        due("bar(0, 0): the fortieth clause", last.bar(0, 0), 39);
    }

    private static void barNoSuchOnes() {
        sentence("Promise 13: NONE: none, or no such ones");
        PasteHouse house = houseWith("campaign a from 0 until 1;bar 1==1;end campaign b from 0 until 1;bar 1==1;end");
        addBoards(house, 0, 0);
        int[] others = {-1, 2, 8, 9, LEAST, MOST};
        for (int other : others) {
            due("bar(" + other + ", 0)", house.bar(other, 0), NONE);
            due("bar(0, " + other + ")", house.bar(0, other), NONE);
        }
        due("bar(1, 1)", house.bar(1, 1), 1);
    }

    private static void inForce() {
        sentence("A CAMPAIGN is in force in the FORTNIGHTS from .. until (not with)");
        PasteHouse house = houseWith("campaign a from 3 until 5;want 1 in 0 worth 1;end campaign b from 0 until 1;want 1 in 0 worth 2;end "
                + "campaign c from 25 until 26;want 1 in 0 worth 4;end campaign d from 4 until 25;want 1 in 0 worth 8;end");
        addBoards(house, 0, 0, 0);
        int[] worths = new int[26];
        for (int fortnight = 0; fortnight < 26; fortnight++) {
            worths[fortnight] = (fortnight == 3 || fortnight == 4 ? 1 : 0) + (fortnight == 0 ? 2 : 0) + (fortnight == 25 ? 4 : 0)
                    + (fortnight >= 4 && fortnight < 25 ? 8 : 0);
            due("give(" + fortnight + ", 0)", house.give(fortnight, 0), worths[fortnight]);
            due("mend(" + fortnight + ", 0)", house.mend(fortnight, 0), 0);
        }
    }

    private static void notMoreThanItSays() {
        sentence("to a want not more BOARDS than it says");
        for (int says = 1; says <= 9; says++) {
            for (int boards = says - 1; boards <= Math.min(9, says + 1); boards++) {
                PasteHouse house = houseWith("campaign a from 0 until 1;want " + says + " in 0 worth 10;end");
                for (int i = 0; i < boards; i++) {
                    addBoards(house, 0);
                }
                due("give(0, 0) of " + boards + " boards, wanted " + says, house.give(0, 0), 10 * Math.min(says, boards));
                due("lacks(0, 0, 0)", house.lacks(0, 0, 0), says - Math.min(says, boards));
                if (boards > 0) {
                    due("given to the first", house.given(0, 0, 0), 0);
                    due("given to the last", house.given(boards - 1, 0, 0), boards > says ? NONE : 0);
                }
            }
        }
    }

    private static void ofItsDistrictAlone() {
        sentence("of its DISTRICT alone");
        PasteHouse house = houseWith("campaign a from 0 until 1;want 9 in 0 worth 1;want 9 in 5 worth 2;end "
                + "campaign b from 0 until 1;want 9 in 1 worth 4;want 9 in 4 worth 8;end");
        addBoards(house, 5, 4, 3, 2, 1, 0);
        due("give(0, 0)", house.give(0, 0), 15);
        dueGiven(house, 0, 1, 3, NONE, NONE, 2, 0);
    }

    private static void noBarBroken() {
        sentence("no BOARD to a CAMPAIGN by a bar of which it holds");
        PasteHouse house = houseWith("campaign a from 0 until 1;want 9 in 0 worth 9;want 9 in 1 worth 9;bar quality<3;bar 7<quality;end "
                + "campaign b from 0 until 1;bar 1==1;want 9 in 0 worth 99;end campaign c from 0 until 1;want 9 in 0 worth 1;end");
        int[] qualities = {2, 3, 7, 8, 2, 3, 7, 8};
        for (int board = 0; board < 8; board++) {
            house.board(board / 4, qualities[board], 100, 0, false);
        }
        due("give(0, 0)", house.give(0, 0), 4 * 9 + 2);
        dueGiven(house, 0, 6, 0, 0, 6, NONE, 1, 1, NONE);
    }

    private static PasteHouse rivals(String aSays, String bSays, boolean beside) {
        PasteHouse house = houseWith("campaign a from 0 until 1;want 9 in 0 worth 3;" + aSays + "end campaign b from 0 until 1;"
                + "want 9 in 1 worth 4;" + bSays + "end campaign c from 0 until 1;want 9 in 2 worth 5;end");
        house.board(0, 5, 100, 0, false);
        house.board(1, 5, 100, 0, beside);
        house.board(1, 5, 100, 0, true);
        house.board(2, 5, 100, 0, true);
        house.board(0, 5, 100, 0, true);
        return house;
    }

    private static void notBesideARival() {
        sentence("beside: not BESIDE a BOARD of that CAMPAIGN (by whichever of both it is told)");
        due("told by none", rivals("", "", true).give(0, 0), 19);
        due("told by the one", rivals("beside b;", "", true).give(0, 0), 16);
        due("told by the other", rivals("", "beside a;", true).give(0, 0), 16);
        due("told by both", rivals("beside b;", "beside a;", true).give(0, 0), 16);
        due("told twice", rivals("beside b;beside b;", "", true).give(0, 0), 16);
        due("told, but they are not beside", rivals("beside b;", "", false).give(0, 0), 19);
        due("a third one on both sides", rivals("beside c;", "", true).give(0, 0), 16);
        due("all three", rivals("beside c;beside b;", "beside c;", true).give(0, 0), 4 + 4 + 3);
        PasteHouse house = rivals("beside c;beside b;", "beside c;", true);
        due("give(0, 0)", house.give(0, 0), 11);
        dueGiven(house, 0, NONE, 3, 3, NONE, 0);
        PasteHouse own = houseWith("campaign a from 0 until 1;want 1 in 0 worth 3;want 1 in 1 worth 3;beside b;end campaign b from 0 until 1;end");
        own.board(0, 5, 100, 0, true);
        own.board(1, 5, 100, 0, true);
        due("a campaign hangs beside itself", own.give(0, 0), 6);
    }

    private static void lostBoards() {
        sentence("4 LOST (from this FORTNIGHT on there is no such BOARD); each BOARD that is not LOST");
        for (int lost : new int[] {0, 1, 12, 25}) {
            PasteHouse house = houseWith("campaign a from 0 until 26;want 9 in 0 worth 1;end");
            addBoards(house, 0, 0);
            house.fact(4, 1, lost, 0);
            for (int fortnight = 0; fortnight < 26; fortnight++) {
                due("give(" + fortnight + ", 1), lost from " + lost, house.give(fortnight, 1), fortnight < lost ? 2 : 1);
                due("given(1, " + fortnight + ", 0)", house.given(1, fortnight, 0), fortnight < lost ? 0 : NONE);
                due("state(1, " + fortnight + ", 1, 3)", house.state(1, fortnight, 1, 3), fortnight < lost ? 0 : 1);
                due("state(0, " + fortnight + ", 1, 3)", house.state(0, fortnight, 1, 3), 0);
            }
        }
        PasteHouse all = houseWith("campaign a from 0 until 26;want 9 in 0 worth 1;end");
        addBoards(all, 0, 0);
        all.fact(4, 0, 0, 0);
        all.fact(4, 1, 0, 0);
        due("give(0, 2): all are lost", all.give(0, 2), 0);
        dueGiven(all, 0, NONE, NONE);
        PasteHouse between = houseWith("campaign a from 0 until 1;want 1 in 0 worth 1;beside b;end campaign b from 0 until 1;want 1 in 1 worth 1;end");
        between.board(0, 5, 100, 0, true);
        between.board(2, 5, 100, 0, true);
        between.board(1, 5, 100, 0, true);
        between.fact(4, 1, 0, 0);
        due("give(0, 1): the one between is lost, the outer ones are not beside", between.give(0, 1), 2);
    }

    private static void lostAsKnown() {
        sentence("as KNOWN by n the first n of them are");
        PasteHouse house = houseWith("campaign a from 0 until 26;want 9 in 0 worth 1;end");
        addBoards(house, 0, 0, 0);
        house.fact(4, 2, 7, 0);
        house.fact(0, 0, 7, 0);
        house.fact(4, 0, 9, 0);
        house.fact(4, 0, 7, 0);
        int[] worths = {3, 2, 2, 2, 1};
        for (int n = 0; n <= 4; n++) {
            due("give(7, " + n + ")", house.give(7, n), worths[n]);
            due("given(0, 7, 0)", house.given(0, 7, 0), n == 4 ? NONE : 0);
            due("given(2, 7, 0)", house.given(2, 7, 0), n == 0 ? 0 : NONE);
        }
        due("give(7, 5)", house.give(7, 5), NONE);
        due("give(9, 2)", house.give(9, 2), 2);
        due("give(9, 3)", house.give(9, 3), 1);
        due("give(8, 3): it is lost later", house.give(8, 3), 2);
    }

    private static void mostWorth() {
        sentence("THE GIVING: of all WAYS that by which the worth of all BOARDS together is the most");
        PasteHouse house = houseWith("campaign a from 0 until 1;want 1 in 0 worth 5;end "
                + "campaign b from 0 until 1;want 1 in 0 worth 4;bar quality<5;end");
        house.board(0, 5, 100, 0, false);
        house.board(0, 4, 100, 0, false);
        due("give(0, 0): board 0 leaves what board 1 alone can have", house.give(0, 0), 9);
        dueGiven(house, 0, 1, 0);
        PasteHouse nine = houseWith("campaign a from 0 until 1;want 2 in 0 worth 9999;end campaign b from 0 until 1;want 3 in 0 worth 9998;end "
                + "campaign c from 0 until 1;want 3 in 0 worth 9997;end campaign d from 0 until 1;want 9 in 0 worth 9996;end");
        addBoards(nine, 0, 0, 0, 0, 0, 0, 0, 0, 0);
        due("give(0, 0) of nine boards", nine.give(0, 0), 2 * 9999 + 3 * 9998 + 3 * 9997 + 9996);
        dueGiven(nine, 0, 0, 0, 1, 1, 1, 2, 2, 2, 3);
        PasteHouse most = houseWith("campaign a from 0 until 1;want 9 in 0 worth 9999;end");
        addBoards(most, 0, 0, 0, 0, 0, 0, 0, 0, 0);
        due("give(0, 0): the most that there is", most.give(0, 0), 89991);
    }

    /** Boards 0 and 2 are for a, board 1 between them is for b. */
    private static void mostWorthBesideRivals() {
        sentence("THE GIVING: .. the most; of alike ones that in which BOARD 0 is given to the least CLAUSE");
        for (int worth = 5; worth <= 7; worth++) {
            PasteHouse house = houseWith("campaign a from 0 until 1;want 9 in 0 worth 3;end "
                    + "campaign b from 0 until 1;want 9 in 1 worth " + worth + ";beside a;end");
            house.board(0, 5, 100, 0, false);
            house.board(1, 5, 100, 0, true);
            house.board(0, 5, 100, 0, true);
            due("give(0, 0), 3 and 3 against " + worth, house.give(0, 0), Math.max(6, worth));
            if (worth <= 6) {
                dueGiven(house, 0, 0, NONE, 0);
            } else {
                dueGiven(house, 0, NONE, 1, NONE);
            }
        }
    }

    private static void leastClauseFirst() {
        sentence("BOARD 0 is given to the least CLAUSE (a want's number; none behind all), then BOARD 1, and so on");
        PasteHouse house = houseWith("campaign a from 0 until 1;bar near 0;want 1 in 0 worth 5;end campaign b from 0 until 1;want 1 in 0 worth 5;end "
                + "campaign c from 0 until 1;want 1 in 0 worth 5;end");
        addBoards(house, 0, 0, 0, 0);
        due("give(0, 0)", house.give(0, 0), 15);
        dueGiven(house, 0, 1, 2, 3, NONE);
        PasteHouse barred = houseWith("campaign a from 0 until 1;bar near 0;want 1 in 0 worth 5;end campaign b from 0 until 1;want 1 in 0 worth 5;end "
                + "campaign c from 0 until 1;want 1 in 0 worth 5;end");
        barred.board(0, 5, 100, 1, false);
        addBoards(barred, 0, 0, 0);
        due("give(0, 0)", barred.give(0, 0), 15);
        dueGiven(barred, 0, 2, 1, 3, NONE);
        // The numbers count, not the worths: the dearer clause is the later one.
        PasteHouse dearer = houseWith("campaign a from 0 until 1;want 1 in 0 worth 1;end campaign b from 0 until 1;want 1 in 0 worth 9;end");
        addBoards(dearer, 0, 0, 0);
        due("give(0, 0)", dearer.give(0, 0), 10);
        dueGiven(dearer, 0, 0, 1, NONE);
    }

    private static void noneBehindAll() {
        sentence("none behind all");
        PasteHouse house = houseWith("campaign a from 0 until 1;bar near 0;want 1 in 0 worth 0;end campaign b from 0 until 1;want 2 in 0 worth 0;end");
        addBoards(house, 0, 0, 0, 0);
        due("give(0, 0): worth 0 goes ahead of none", house.give(0, 0), 0);
        dueGiven(house, 0, 1, 2, 2, NONE);
        due("lacks(1, 0, 0)", house.lacks(1, 0, 0), 0);
        due("count(4)", house.count(4), 1);
    }

    private static void giveNoSuchOnes() {
        sentence("Promise 9: NONE, and nothing happens: no such ones");
        PasteHouse house = houseWith("campaign a from 0 until 26;want 9 in 0 worth 1;end");
        addBoards(house, 0, 0);
        house.fact(4, 1, 0, 0);
        for (int fortnight : new int[] {-1, 26, LEAST, MOST}) {
            due("give(" + fortnight + ", 0)", house.give(fortnight, 0), NONE);
        }
        for (int n : new int[] {-1, 2, 300, 301, LEAST, MOST}) {
            due("give(0, " + n + ")", house.give(0, n), NONE);
        }
        due("count(4)", house.count(4), 0);
        due("give(0, 0)", house.give(0, 0), 2);
        due("give(25, 1)", house.give(25, 1), 1);
        due("give(0, 2)", house.give(0, 2), NONE);
        due("give(25, -1)", house.give(25, -1), NONE);
        dueGiven(house, 0, 0, 0);
        dueGiven(house, 25, 0, NONE);
        due("count(4)", house.count(4), 2);
    }

    private static void giveIsWhatIsGiven() {
        sentence("Promise 9: THE GIVING of a FORTNIGHT, as KNOWN by n, is what is GIVEN in it: its worth");
        PasteHouse house = houseWith("campaign a from 0 until 26;want 1 in 0 worth 5;end campaign b from 0 until 26;want 1 in 0 worth 5;end");
        addBoards(house, 0, 0, 0);
        house.fact(4, 0, 0, 0);
        due("give(3, 1)", house.give(3, 1), 10);
        dueGiven(house, 3, NONE, 0, 1);
        due("give(4, 0)", house.give(4, 0), 10);
        dueGiven(house, 4, 0, 1, NONE);
        dueGiven(house, 3, NONE, 0, 1);
        due("nothing is given in fortnight 5", house.given(0, 5, 2), NONE);
        due("give(3, 0): in place of what was given", house.give(3, 0), 10);
        dueGiven(house, 3, 0, 1, NONE);
        due("count(4)", house.count(4), 2);
    }

    /** So many campaigns, all in force in fortnight 1, the first alone in fortnight 0, the last alone in 2. */
    private static PasteHouse crowd(int campaigns) {
        StringBuilder text = new StringBuilder();
        for (int c = 0; c < campaigns; c++) {
            text.append("campaign c").append((char) ('a' + c)).append(" from ").append(c == 0 ? 0 : 1).append(" until ")
                    .append(c == campaigns - 1 ? 3 : 2).append(';').append(c % 2 == 0 ? "want 1 in 0 worth 1;" : "").append("end ");
        }
        PasteHouse house = houseWith(text.toString());
        addBoards(house, 0, 0, 0, 0, 0, 0, 0, 0, 0);
        return house;
    }

    private static void full() {
        sentence("If more than 4 CAMPAIGNS are in force in a FORTNIGHT, that is FULL");
        for (int campaigns = 1; campaigns <= 8; campaigns++) {
            PasteHouse house = crowd(campaigns);
            int wants = (campaigns + 1) / 2;
            due("give(0, 0) of " + campaigns, house.give(0, 0), 1);
            due("give(1, 0) of " + campaigns, house.give(1, 0), campaigns > 4 ? FULL : wants);
            due("give(2, 0) of " + campaigns, house.give(2, 0), campaigns % 2);
            due("give(3, 0) of " + campaigns, house.give(3, 0), 0);
        }
    }

    private static void fourAndNone() {
        sentence("each BOARD that is not LOST to one want of a CAMPAIGN in force, or to none");
        StringBuilder text = new StringBuilder();
        for (int c = 0; c < 4; c++) {
            text.append("campaign c").append((char) ('a' + c)).append(" from 0 until 1;want 1 in 0 worth ").append(10 - c).append(";end ");
        }
        PasteHouse house = houseWith(text.toString());
        addBoards(house, 0, 0, 0, 0, 0, 0, 0, 0, 0);
        due("give(0, 0): four are wanted, five are left", house.give(0, 0), 34);
        dueGiven(house, 0, 0, 1, 2, 3, NONE, NONE, NONE, NONE, NONE);
        for (int board = 0; board < 4; board++) {
            house.fact(4, board, 0, 0);
        }
        due("mend(0, 4)", house.mend(0, 4), 4);
        dueGiven(house, 0, NONE, NONE, NONE, NONE, 0, 1, 2, 3, NONE);
    }

    private static void fullGivesNothing() {
        sentence("Promise 9: NONE, and nothing happens: no such ones; -2: FULL");
        PasteHouse house = crowd(5);
        due("give(1, 0)", house.give(1, 0), FULL);
        due("give(1, 1): no such n", house.give(1, 1), NONE);
        due("give(1, -1): no such n", house.give(1, -1), NONE);
        due("count(4)", house.count(4), 0);
        due("given(0, 1, 0)", house.given(0, 1, 0), NONE);
        due("given(0, 1, 2)", house.given(0, 1, 2), NONE);
        due("lacks(0, 1, 0)", house.lacks(0, 1, 0), NONE);
        due("refund(0, 1, 0)", house.refund(0, 1, 0), NONE);
        due("reach(0, 1, 0)", house.reach(0, 1, 0), NONE);
        due("mend(1, 0): nothing is given in it", house.mend(1, 0), NONE);
        PasteHouse four = crowd(4);
        due("give(1, 0)", four.give(1, 0), 2);
        due("mend(1, 0)", four.mend(1, 0), 0);
    }

    private static PasteHouse threeAlike() {
        PasteHouse house = houseWith("campaign a from 0 until 26;want 1 in 0 worth 5;end campaign b from 0 until 26;want 1 in 0 worth 5;end "
                + "campaign c from 0 until 26;want 1 in 0 worth 5;end");
        addBoards(house, 0, 0, 0, 0, 0);
        due("give(0, 0)", house.give(0, 0), 15);
        dueGiven(house, 0, 0, 1, 2, NONE, NONE);
        return house;
    }

    private static void mendMovesTheFewest() {
        sentence("THE MENDING: .. the fewest BOARDS that are not LOST are given otherwise than now (by CLAUSES)");
        PasteHouse house = threeAlike();
        due("mend(0, 0): nothing is amiss", house.mend(0, 0), 0);
        dueGiven(house, 0, 0, 1, 2, NONE, NONE);
        house.fact(4, 0, 0, 0);
        due("mend(0, 1)", house.mend(0, 1), 1);
        dueGiven(house, 0, NONE, 1, 2, 0, NONE);
        house.fact(4, 1, 0, 0);
        due("mend(0, 2)", house.mend(0, 2), 1);
        dueGiven(house, 0, NONE, NONE, 2, 0, 1);
        due("mend(0, 2) again", house.mend(0, 2), 0);
        due("mend(0, 0): as known by less nobody is lost, and nobody moves", house.mend(0, 0), 0);
        dueGiven(house, 0, NONE, NONE, 2, 0, 1);
        PasteHouse two = threeAlike();
        two.fact(4, 0, 0, 0);
        two.fact(4, 2, 0, 0);
        due("mend(0, 2): two at once", two.mend(0, 2), 2);
        dueGiven(two, 0, NONE, 1, NONE, 0, 2);
        PasteHouse anew = threeAlike();
        anew.fact(4, 0, 0, 0);
        due("give(0, 1) moves more", anew.give(0, 1), 15);
        dueGiven(anew, 0, NONE, 0, 1, 2, NONE);
    }

    private static void mendFirstByClauses() {
        sentence("THE MENDING: .. of these the first by CLAUSES likewise");
        PasteHouse house = threeAlike();
        house.fact(4, 1, 0, 0);
        due("mend(0, 1): board 3 goes ahead of board 4", house.mend(0, 1), 1);
        dueGiven(house, 0, 0, NONE, 2, 1, NONE);
        house.fact(4, 3, 0, 0);
        house.fact(4, 4, 0, 0);
        due("mend(0, 3): nobody is left for it", house.mend(0, 3), 0);
        dueGiven(house, 0, 0, NONE, 2, NONE, NONE);
        due("mend(0, 0): of 1, 3 and 4 the first", house.mend(0, 0), 1);
        dueGiven(house, 0, 0, 1, 2, NONE, NONE);
        // A want of worth 0 is no gain that a move would be worth.
        PasteHouse idle = houseWith("campaign a from 0 until 1;want 1 in 0 worth 0;end");
        addBoards(idle, 0, 0);
        due("give(0, 0)", idle.give(0, 0), 0);
        dueGiven(idle, 0, 0, NONE);
        idle.fact(4, 0, 0, 0);
        due("mend(0, 1)", idle.mend(0, 1), 0);
        dueGiven(idle, 0, NONE, NONE);
        due("mend(0, 0)", idle.mend(0, 0), 0);
        dueGiven(idle, 0, NONE, NONE);
        due("give(0, 0)", idle.give(0, 0), 0);
        dueGiven(idle, 0, 0, NONE);
    }

    /** All hang for a, until its dearer board 0 is lost: then b, one worth more, takes all. */
    private static void mendMostWorthGoesAhead() {
        sentence("THE MENDING of what is GIVEN: of all WAYS with the most worth");
        PasteHouse house = houseWith("campaign a from 0 until 1;want 1 in 1 worth 2;want 7 in 0 worth 5;end "
                + "campaign b from 0 until 1;beside a;want 7 in 0 worth 5;want 1 in 2 worth 1;end");
        house.board(1, 5, 100, 0, true);
        for (int i = 0; i < 7; i++) {
            house.board(0, 5, 100, 0, true);
        }
        house.board(2, 5, 100, 0, true);
        due("give(0, 0)", house.give(0, 0), 37);
        dueGiven(house, 0, 0, 1, 1, 1, 1, 1, 1, 1, NONE);
        house.fact(4, 0, 0, 0);
        due("mend(0, 1): all eight move for one worth", house.mend(0, 1), 8);
        dueGiven(house, 0, NONE, 3, 3, 3, 3, 3, 3, 3, 4);
        house.fact(4, 8, 0, 0);
        due("mend(0, 2): alike, so nobody moves", house.mend(0, 2), 0);
        dueGiven(house, 0, NONE, 3, 3, 3, 3, 3, 3, 3, NONE);
        due("mend(0, 0): all nine are there again; eight move, and the last stays with none", house.mend(0, 0), 8);
        dueGiven(house, 0, 0, 1, 1, 1, 1, 1, 1, 1, NONE);
    }

    private static void mendCountsNoLostOnes() {
        sentence("Promise 10: how many BOARDS that are not LOST are given otherwise");
        PasteHouse house = houseWith("campaign a from 3 until 6;want 9 in 0 worth 1;end");
        addBoards(house, 0, 0, 0, 0, 0, 0, 0, 0, 0);
        due("give(4, 0)", house.give(4, 0), 9);
        for (int board = 0; board < 9; board++) {
            house.fact(4, board, board < 8 ? 4 : 5, 0);
        }
        due("mend(4, 9): eight are lost, the ninth is lost later", house.mend(4, 9), 0);
        dueGiven(house, 4, NONE, NONE, NONE, NONE, NONE, NONE, NONE, NONE, 0);
        due("mend(4, 3): five come back", house.mend(4, 3), 5);
        dueGiven(house, 4, NONE, NONE, NONE, 0, 0, 0, 0, 0, 0);
        due("mend(4, 0): three come back", house.mend(4, 0), 3);
        due("mend(4, 9)", house.mend(4, 9), 0);
        due("mend(4, 0): eight come back", house.mend(4, 0), 8);
    }

    private static void mendNewBoard() {
        sentence("THE MENDING of what is GIVEN: .. given otherwise than now");
        PasteHouse house = houseWith("campaign a from 0 until 1;want 2 in 0 worth 3;end");
        addBoards(house, 0);
        due("give(0, 0)", house.give(0, 0), 3);
        addBoards(house, 0, 0);
        dueGiven(house, 0, 0, NONE, NONE);
        due("mend(0, 0): the new board is given now", house.mend(0, 0), 1);
        dueGiven(house, 0, 0, 0, NONE);
        due("mend(0, 0)", house.mend(0, 0), 0);
        PasteHouse empty = houseWith("campaign a from 0 until 1;want 9 in 0 worth 3;end");
        due("give(0, 0) without boards", empty.give(0, 0), 0);
        addBoards(empty, 0, 0, 0, 0, 0, 0, 0, 0, 0);
        due("mend(0, 0): nine new ones", empty.mend(0, 0), 9);
    }

    private static void mendNoSuchOnes() {
        sentence("Promise 10: NONE, and nothing happens: no such ones");
        PasteHouse house = threeAlike();
        house.give(25, 0);
        house.fact(4, 0, 0, 0);
        for (int fortnight : new int[] {-1, 26, LEAST, MOST}) {
            due("mend(" + fortnight + ", 1)", house.mend(fortnight, 1), NONE);
        }
        for (int n : new int[] {-1, 2, 300, 301, LEAST, MOST}) {
            due("mend(0, " + n + ")", house.mend(0, n), NONE);
        }
        dueGiven(house, 0, 0, 1, 2, NONE, NONE);
        due("mend(0, 1)", house.mend(0, 1), 1);
        dueGiven(house, 25, 0, 1, 2, NONE, NONE);
        due("mend(25, 1)", house.mend(25, 1), 1);
        dueGiven(house, 25, NONE, 1, 2, 0, NONE);
    }

    private static void mendNothingGiven() {
        sentence("Promise 10: NONE, and nothing happens: .. or nothing is GIVEN in it");
        PasteHouse house = threeAlike();
        for (int fortnight = 1; fortnight < 26; fortnight++) {
            due("mend(" + fortnight + ", 0)", house.mend(fortnight, 0), NONE);
            due("given(0, " + fortnight + ", 0)", house.given(0, fortnight, 0), NONE);
        }
        due("count(4)", house.count(4), 1);
        house.give(25, 0);
        due("mend(25, 0)", house.mend(25, 0), 0);
        due("count(4)", house.count(4), 2);
    }

    private static void givenWhats() {
        sentence("Promise 11: what 0: the CLAUSE (NONE: none), 1: its CAMPAIGN (NONE), 2: its worth (0), 3: DUE (NONE)");
        PasteHouse house = houseWith("campaign a from 0 until 26;bar near 0;end campaign b from 0 until 26;bar near 0;want 1 in 0 worth 0;"
                + "want 1 in 1 worth 9999;end");
        house.board(0, 5, 100, 0, false);
        house.board(1, 5, 100, 0, false);
        house.board(1, 5, 100, 1, false);
        for (int fortnight : new int[] {0, 25}) {
            for (int what = 0; what < 4; what++) {
                due("ahead of give: given(2, " + fortnight + ", " + what + ")", house.given(2, fortnight, what), NONE);
            }
            due("give(" + fortnight + ", 0)", house.give(fortnight, 0), 9999);
            int[][] answers = {{2, 1, 0, 0}, {3, 1, 9999, 0}, {NONE, NONE, 0, NONE}};
            for (int board = 0; board < 3; board++) {
                for (int what = 0; what < 4; what++) {
                    due("given(" + board + ", " + fortnight + ", " + what + ")", house.given(board, fortnight, what),
                            answers[board][what]);
                }
            }
        }
    }

    private static void givenNoSuchOnes() {
        sentence("Promise 11: NONE for others, or if nothing is GIVEN in it");
        PasteHouse house = houseWith("campaign a from 0 until 26;want 9 in 0 worth 7;end");
        addBoards(house, 0, 0);
        due("give(0, 0)", house.give(0, 0), 14);
        due("give(25, 0)", house.give(25, 0), 14);
        for (int what = 0; what < 4; what++) {
            for (int board : new int[] {-1, 2, 8, 9, LEAST, MOST}) {
                due("given(" + board + ", 0, " + what + ")", house.given(board, 0, what), NONE);
            }
            for (int fortnight : new int[] {-1, 1, 24, 26, LEAST, MOST}) {
                due("given(0, " + fortnight + ", " + what + ")", house.given(0, fortnight, what), NONE);
            }
        }
        for (int what : new int[] {-1, 4, 5, 20, LEAST, MOST}) {
            due("given(0, 0, " + what + ")", house.given(0, 0, what), NONE);
        }
        due("given(1, 25, 2)", house.given(1, 25, 2), 7);
    }

    private static void lacks() {
        sentence("Promise 14: How many BOARDS a CAMPAIGN is short of in a FORTNIGHT by its wants of a DISTRICT");
        PasteHouse house = houseWith("campaign a from 0 until 26;want 3 in 0 worth 1;want 9 in 5 worth 1;bar near 0;end "
                + "campaign b from 0 until 26;want 1 in 0 worth 2;end");
        addBoards(house, 0, 0, 0, 0);
        due("give(0, 0)", house.give(0, 0), 5);
        due("all that it wants", house.lacks(0, 0, 0), 0);
        due("none that it wants", house.lacks(0, 0, 5), 9);
        due("another's", house.lacks(1, 0, 0), 0);
        for (int district = 1; district < 5; district++) {
            due("it wants none in " + district, house.lacks(0, 0, district), 0);
        }
        due("it wants none in 5", house.lacks(1, 0, 5), 0);
        house.fact(4, 3, 25, 0);
        due("give(25, 1): one is lost", house.give(25, 1), 4);
        due("short of one", house.lacks(0, 25, 0), 1);
        due("short of none", house.lacks(1, 25, 0), 0);
        due("in fortnight 0 as it was", house.lacks(0, 0, 0), 0);
    }

    private static void lacksNoSuchOnes() {
        sentence("Promise 14: NONE: no such ones, nothing is GIVEN in it");
        PasteHouse house = houseWith("campaign a from 0 until 26;want 3 in 0 worth 1;want 3 in 5 worth 1;end campaign b from 0 until 26;want 1 in 0 worth 1;end");
        due("lacks(0, 0, 0): nothing is given", house.lacks(0, 0, 0), NONE);
        due("give(0, 0)", house.give(0, 0), 0);
        due("give(25, 0)", house.give(25, 0), 0);
        for (int campaign : new int[] {-1, 2, 8, LEAST, MOST}) {
            due("lacks(" + campaign + ", 0, 0)", house.lacks(campaign, 0, 0), NONE);
        }
        for (int fortnight : new int[] {-1, 1, 24, 26, LEAST, MOST}) {
            due("lacks(0, " + fortnight + ", 0)", house.lacks(0, fortnight, 0), NONE);
        }
        for (int district : new int[] {-1, 6, LEAST, MOST}) {
            due("lacks(0, 0, " + district + ")", house.lacks(0, 0, district), NONE);
        }
        due("lacks(0, 0, 5)", house.lacks(0, 0, 5), 3);
        due("lacks(1, 25, 0)", house.lacks(1, 25, 0), 1);
    }

    private static void lacksNotInForce() {
        sentence("Promise 14: NONE: .. or it is not in force");
        PasteHouse house = houseWith("campaign a from 2 until 4;want 3 in 0 worth 1;end campaign b from 25 until 26;want 2 in 0 worth 1;end");
        for (int fortnight = 0; fortnight < 26; fortnight++) {
            house.give(fortnight, 0);
            due("lacks(0, " + fortnight + ", 0)", house.lacks(0, fortnight, 0), fortnight == 2 || fortnight == 3 ? 3 : NONE);
            due("lacks(0, " + fortnight + ", 1)", house.lacks(0, fortnight, 1), fortnight == 2 || fortnight == 3 ? 0 : NONE);
            due("lacks(1, " + fortnight + ", 0)", house.lacks(1, fortnight, 0), fortnight == 25 ? 2 : NONE);
        }
    }
}
