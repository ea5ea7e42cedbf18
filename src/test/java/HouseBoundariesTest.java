/** The new object, the tape, the boards, the men, the facts and the counts (part I, promises 1 to 3, 6 to 8 and 19). */
public final class HouseBoundariesTest extends Checks {
    private static final int BLANKS = 0x20202020;
    private static final String WANTS = "campaign a from 0 until 26;want 9 in 0 worth 1;want 9 in 1 worth 1;want 9 in 2 worth 1;"
            + "want 9 in 3 worth 1;want 9 in 4 worth 1;want 9 in 5 worth 1;end";

    public static void main(String[] args) {
        noBoards();
        noContracts();
        nothingGiven();
        objectsAreApart();
        twentyBytes();
        tapeIsFull();
        nothingComes();
        lastBytesGo();
        nothingGoes();
        nineBoards();
        boardsNumbered();
        boardDistrict();
        boardQuality();
        boardAudience();
        boardMarks();
        firstIsBesideNone();
        besideTheOneAhead();
        paceAtFirst();
        paceBounds();
        paceOfOneDistrict();
        threeHundredFacts();
        factKinds();
        factBoards();
        factFortnights();
        factDays();
        factDayOfLost();
        counts();
        countOthers();
        countFortnights();
        fullHouse();
        finish(HouseBoundariesTest.class);
    }

    private static void noBoards() {
        sentence("Promise 1: No BOARDS");
        PasteHouse house = new PasteHouse();
        due("count(0)", house.count(0), 0);
        due("fact(0, 0, 0, 0)", house.fact(0, 0, 0, 0), NONE);
        due("state(0, 0, 0, 0)", house.state(0, 0, 0, 0), NONE);
        due("count(1)", house.count(1), 0);
        dueSound(house, WANTS);
        due("may(0, 0)", house.may(0, 0), NONE);
        due("bar(0, 0)", house.bar(0, 0), NONE);
        due("give(0, 0): a way without boards", house.give(0, 0), 0);
        due("given(0, 0, 0)", house.given(0, 0, 0), NONE);
        due("given(0, 0, 2)", house.given(0, 0, 2), NONE);
        due("ground(0, 0, 0)", house.ground(0, 0, 0), NONE);
        due("lacks(0, 0, 0): all of them", house.lacks(0, 0, 0), 9);
        due("refund(0, 0, 0)", house.refund(0, 0, 0), 0);
        due("reach(0, 0, 0)", house.reach(0, 0, 0), 0);
        due("mend(0, 0)", house.mend(0, 0), 0);
        due("the first board", house.board(0, 1, 0, 0, false), 0);
    }

    private static void noContracts() {
        sentence("Promise 1: no CONTRACTS");
        PasteHouse house = new PasteHouse();
        due("count(2)", house.count(2), 0);
        due("count(3)", house.count(3), 0);
        addBoards(house, 0);
        due("may(0, 0)", house.may(0, 0), NONE);
        due("bar(0, 0)", house.bar(0, 0), NONE);
        due("give(0, 0): to none", house.give(0, 0), 0);
        due("given(0, 0, 0)", house.given(0, 0, 0), NONE);
        due("given(0, 0, 2)", house.given(0, 0, 2), 0);
        due("lacks(0, 0, 0)", house.lacks(0, 0, 0), NONE);
        due("refund(0, 0, 0)", house.refund(0, 0, 0), NONE);
        due("reach(0, 0, 0)", house.reach(0, 0, 0), NONE);
        due("ground(0, 0, 0)", house.ground(0, 0, 0), NONE);
        due("mend(0, 0)", house.mend(0, 0), 0);
        due("place()", house.place(), NONE);
    }

    private static void nothingGiven() {
        sentence("Promise 1: nothing is GIVEN");
        PasteHouse house = new PasteHouse();
        addBoards(house, 0);
        due("count(4)", house.count(4), 0);
        for (int fortnight = 0; fortnight < 26; fortnight++) {
            for (int what = 0; what < 4; what++) {
                due("given(0, " + fortnight + ", " + what + ")", house.given(0, fortnight, what), NONE);
            }
            due("mend(" + fortnight + ", 0)", house.mend(fortnight, 0), NONE);
        }
    }

    private static void objectsAreApart() {
        sentence("Promise 1: A new object");
        PasteHouse used = houseWith(WANTS);
        addBoards(used, 0);
        used.fact(1, 0, 0, 0);
        used.pace(0, 1);
        used.give(0, 0);
        used.feed(1, 2, 3, 4, 5);
        PasteHouse house = new PasteHouse();
        for (int what = 0; what <= 5; what++) {
            due("count(" + what + ") beside a used one", house.count(what), 0);
            due("count(" + what + ") of the used one", used.count(what), new int[] {1, 1, 1, 6, 1, 20}[what]);
        }
    }

    private static void twentyBytes() {
        sentence("Promise 2: Twenty bytes, the highest of a first, come behind the tape: how many it has");
        PasteHouse house = new PasteHouse();
        String text = "campaign abcd from 0 until 20;want 5 in 1 worth 678;end " + "    ";
        due("feed no. 1", house.feed(four(text, 0), four(text, 4), four(text, 8), four(text, 12), four(text, 16)), 20);
        due("feed no. 2", house.feed(four(text, 20), four(text, 24), four(text, 28), four(text, 32), four(text, 36)), 40);
        due("feed no. 3", house.feed(four(text, 40), four(text, 44), four(text, 48), four(text, 52), four(text, 56)), 60);
        due("read()", house.read(), 0);
        addBoards(house, 1);
        due("give(19, 0)", house.give(19, 0), 678);
        due("feed behind read()", house.feed(-1, -1, -1, -1, -1), 20);
        due("read() of bytes of 255", house.read(), 1);
        due("place()", house.place(), 0);
        // Each byte has its place: the only one that is no blank is where it was fed.
        for (int at = 0; at < 20; at++) {
            int[] fives = {BLANKS, BLANKS, BLANKS, BLANKS, BLANKS};
            fives[at / 4] |= 0x80 << (24 - 8 * (at % 4));
            house.feed(fives[0], fives[1], fives[2], fives[3], fives[4]);
            due("read() of a fault at " + at, house.read(), 1);
            due("place()", house.place(), at);
        }
    }

    private static void tapeIsFull() {
        sentence("Promise 2: NONE, and nothing comes, if it would have more than 3,000");
        PasteHouse house = new PasteHouse();
        for (int i = 1; i <= 149; i++) {
            house.feed(BLANKS, BLANKS, BLANKS, BLANKS, BLANKS);
        }
        due("count(5)", house.count(5), 2980);
        due("feed up to 3,000", house.feed(BLANKS, BLANKS, BLANKS, BLANKS, BLANKS), 3000);
        due("feed beyond", house.feed(BLANKS, BLANKS, BLANKS, BLANKS, BLANKS), NONE);
        due("feed beyond again", house.feed(0, 0, 0, 0, 0), NONE);
        due("count(5)", house.count(5), 3000);
        for (int room = 1; room < 20; room++) {
            due("back(1)", house.back(1), 3000 - room);
            due("feed with room for " + room, house.feed(0, 0, 0, 0, 0), NONE);
        }
        due("back(1)", house.back(1), 2980);
        due("feed with room for 20", house.feed(BLANKS, BLANKS, BLANKS, BLANKS, BLANKS), 3000);
        due("read(): no byte of the refused ones came", house.read(), 0);
        due("feed behind read()", house.feed(BLANKS, BLANKS, BLANKS, BLANKS, BLANKS), 20);
    }

    private static void nothingComes() {
        sentence("Promise 2: NONE, and nothing comes");
        PasteHouse house = new PasteHouse();
        String text = " ".repeat(2985) + "campaign";
        feed(house, text);
        due("count(5)", house.count(5), 2993);
        due("feed", house.feed(BLANKS, BLANKS, BLANKS, BLANKS, BLANKS), NONE);
        due("read(): the text ends where it did", house.read(), 1);
        due("place()", house.place(), 2993);
    }

    private static void lastBytesGo() {
        sentence("Promise 3: The last n bytes of the tape go: how many it has");
        PasteHouse house = new PasteHouse();
        house.feed(four("camp", 0), four("aign", 0), four(" x f", 0), four("rom?", 0), four("????", 0));
        due("back(5)", house.back(5), 15);
        house.feed(four(" 0 u", 0), four("ntil", 0), four(" 1;e", 0), four("nd! ", 0), four("    ", 0));
        due("count(5)", house.count(5), 35);
        due("back(0)", house.back(0), 35);
        due("back(4)", house.back(4), 31);
        due("back(1)", house.back(1), 30);
        due("back(1)", house.back(1), 29);
        due("read()", house.read(), 0);
        due("count(2)", house.count(2), 1);
        house.feed(0, 0, 0, 0, 0);
        due("back(20): all go", house.back(20), 0);
        due("back(0) of an empty tape", house.back(0), 0);
        due("read(): none of it is left", house.read(), 0);
        feed(house, " ".repeat(3000));
        due("back(3000)", house.back(3000), 0);
    }

    private static void nothingGoes() {
        sentence("Promise 3: NONE, and nothing goes, if it has not so many, or n is below 0");
        PasteHouse house = new PasteHouse();
        due("back(1) of an empty tape", house.back(1), NONE);
        due("back(-1) of an empty tape", house.back(-1), NONE);
        house.feed(BLANKS, BLANKS, BLANKS, BLANKS, BLANKS);
        int[] refused = {21, 22, 3000, MOST, -1, -20, LEAST, LEAST + 20};
        for (int n : refused) {
            due("back(" + n + ")", house.back(n), NONE);
            due("count(5)", house.count(5), 20);
        }
        due("back(20)", house.back(20), 0);
        feed(house, " ".repeat(3000));
        due("back(3001) of a full tape", house.back(3001), NONE);
        due("count(5)", house.count(5), 3000);
    }

    private static void nineBoards() {
        sentence("Promise 6: NONE, and nothing happens: 9 are there");
        PasteHouse house = houseWith(WANTS);
        for (int i = 0; i < 8; i++) {
            house.board(0, 1, 0, 0, false);
        }
        due("a ninth", house.board(1, 9, 1000, 255, true), 8);
        due("a tenth", house.board(0, 1, 0, 0, false), NONE);
        due("an eleventh", house.board(1, 9, 1000, 255, true), NONE);
        due("count(0)", house.count(0), 9);
        due("give(0, 0)", house.give(0, 0), 9);
        due("given(8, 0, 0)", house.given(8, 0, 0), 1);
        due("given(9, 0, 0)", house.given(9, 0, 0), NONE);
        due("given(9, 0, 2)", house.given(9, 0, 2), NONE);
    }

    private static void boardsNumbered() {
        sentence("BOARDS, 9 at most, numbered from 0 on");
        PasteHouse house = new PasteHouse();
        for (int i = 0; i < 9; i++) {
            due("refused between", house.board(0, 0, 0, 0, false), NONE);
            due("board no. " + i, house.board(i % 6, i + 1, 0, 0, i % 2 == 0), i);
            due("count(0)", house.count(0), i + 1);
        }
    }

    private static void dueRefused(PasteHouse house, int district, int quality, int audience, int marks) {
        int before = house.count(0);
        due("board(" + district + ", " + quality + ", " + audience + ", " + marks + ", false)",
                house.board(district, quality, audience, marks, false), NONE);
        due("board(" + district + ", " + quality + ", " + audience + ", " + marks + ", true)",
                house.board(district, quality, audience, marks, true), NONE);
        due("count(0)", house.count(0), before);
    }

    private static void dueHolds(PasteHouse house, int board, int campaign, boolean holds) {
        due("may(" + board + ", " + campaign + ")", house.may(board, campaign), holds ? 0 : 1);
    }

    /** Campaign a bars what is the least, b what is the most; board 0 is the one, board 1 the other. */
    private static void dueEdgesKept(PasteHouse house) {
        dueHolds(house, 0, 0, true);
        dueHolds(house, 0, 1, false);
        dueHolds(house, 1, 0, false);
        dueHolds(house, 1, 1, true);
    }

    private static void boardDistrict() {
        sentence("a DISTRICT (0 .. 5)");
        PasteHouse house = houseWith("campaign a from 0 until 1;bar district==0;end campaign b from 0 until 1;bar district==5;end");
        for (int district : new int[] {-1, 6, 7, 256, LEAST, MOST}) {
            dueRefused(house, district, 5, 100, 0);
        }
        due("board of district 0", house.board(0, 5, 100, 0, false), 0);
        due("board of district 5", house.board(5, 5, 100, 0, false), 1);
        dueEdgesKept(house);
    }

    private static void boardQuality() {
        sentence("a QUALITY (1 .. 9)");
        PasteHouse house = houseWith("campaign a from 0 until 1;bar quality==1;end campaign b from 0 until 1;bar quality==9;end");
        for (int quality : new int[] {0, -1, 10, LEAST, MOST}) {
            dueRefused(house, 0, quality, 100, 0);
        }
        due("board of quality 1", house.board(0, 1, 100, 0, false), 0);
        due("board of quality 9", house.board(0, 9, 100, 0, false), 1);
        dueEdgesKept(house);
    }

    private static void boardAudience() {
        sentence("an AUDIENCE (0 .. 1000)");
        PasteHouse house = houseWith("campaign a from 0 until 1;bar audience==0;end campaign b from 0 until 1;bar audience==1000;end");
        for (int audience : new int[] {-1, 1001, 65536, LEAST, MOST}) {
            dueRefused(house, 0, 5, audience, 0);
        }
        due("board of audience 0", house.board(0, 5, 0, 0, false), 0);
        due("board of audience 1000", house.board(0, 5, 1000, 0, false), 1);
        dueEdgesKept(house);
    }

    private static void boardMarks() {
        sentence("MARKS (0 .. 255, bits: what is near)");
        PasteHouse house = houseWith("campaign a from 0 until 1;bar near 0;end campaign b from 0 until 1;bar near 1;end "
                + "campaign c from 0 until 1;bar near 2;end campaign d from 0 until 1;bar near 3;end "
                + "campaign e from 0 until 1;bar near 4;end campaign f from 0 until 1;bar near 5;end "
                + "campaign g from 0 until 1;bar near 6;end campaign h from 0 until 1;bar near 7;end");
        for (int marks : new int[] {-1, 256, 257, 512, LEAST, MOST}) {
            dueRefused(house, 0, 5, 100, marks);
        }
        int[] all = {0, 255, 1, 2, 64, 128, 127, 254, 85};
        for (int board = 0; board < all.length; board++) {
            due("board with marks " + all[board], house.board(0, 5, 100, all[board], false), board);
            for (int bit = 0; bit < 8; bit++) {
                dueHolds(house, board, bit, (all[board] >> bit & 1) == 1);
            }
        }
    }

    private static void firstIsBesideNone() {
        sentence("Promise 6: (The first one is BESIDE none.)");
        String rivals = "campaign a from 0 until 1;want 1 in 0 worth 1;beside b;end campaign b from 0 until 1;want 1 in 1 worth 1;end";
        for (int boards = 2; boards <= 9; boards++) {
            PasteHouse house = houseWith(rivals);
            house.board(0, 5, 100, 0, true);
            for (int i = 1; i < boards - 1; i++) {
                house.board(2, 5, 100, 0, false);
            }
            house.board(1, 5, 100, 0, false);
            due("give(0, 0) of " + boards + " boards: not even the last one", house.give(0, 0), 2);
        }
        PasteHouse alone = houseWith(rivals);
        alone.board(0, 5, 100, 0, true);
        due("give(0, 0) of one board", alone.give(0, 0), 1);
    }

    /** Two rivals want one board each; all boards but the two are of a district that nobody wants. */
    private static int worthOfRivals(int boards, int one, int other, boolean[] beside) {
        PasteHouse house = houseWith("campaign a from 0 until 1;want 1 in 0 worth 1;beside b;end "
                + "campaign b from 0 until 1;want 1 in 1 worth 1;end");
        for (int i = 0; i < boards; i++) {
            house.board(i == one ? 0 : i == other ? 1 : 2, 5, 100, 0, beside[i]);
        }
        return house.give(0, 0);
    }

    private static void besideTheOneAhead() {
        sentence("whether it hangs BESIDE the one ahead (by number)");
        for (int at = 1; at < 9; at++) {
            boolean[] beside = new boolean[9];
            beside[at] = true;
            due("beside told of " + at, worthOfRivals(9, at - 1, at, beside), 1);
            due("beside told of " + at + ", the wants changed", worthOfRivals(9, at, at - 1, beside), 1);
            if (at < 8) {
                due("beside told of " + at + ": not the one behind", worthOfRivals(9, at, at + 1, beside), 2);
                due("beside told of " + at + ": not those around it", worthOfRivals(9, at - 1, at + 1, beside), 2);
                beside[at + 1] = true;
                due("beside told of two: not the outer ones", worthOfRivals(9, at - 1, at + 1, beside), 2);
            }
        }
    }

    /** Nine boards of one district are given: the day of the last tells the pace of its man. */
    private static PasteHouse nineOf(int district) {
        PasteHouse house = houseWith(WANTS);
        for (int i = 0; i < 9; i++) {
            addBoards(house, district);
        }
        due("give(0, 0)", house.give(0, 0), 9);
        return house;
    }

    private static void paceAtFirst() {
        sentence("Of each DISTRICT a MAN has a PACE (.. 3 at first)");
        for (int district = 0; district < 6; district++) {
            PasteHouse house = nineOf(district);
            int[] days = {0, 0, 0, 1, 1, 1, 2, 2, 2};
            for (int board = 0; board < 9; board++) {
                due("given(" + board + ", 0, 3) of district " + district, house.given(board, 0, 3), days[board]);
            }
        }
    }

    private static void paceBounds() {
        sentence("Promise 7: The PACE of a DISTRICT's MAN becomes v: true; false: no such ones");
        for (int district = 0; district < 6; district++) {
            PasteHouse house = nineOf(district);
            due("pace(" + district + ", 1)", house.pace(district, 1), true);
            due("one a day", house.given(8, 0, 3), 8);
            due("pace(" + district + ", 9)", house.pace(district, 9), true);
            due("nine a day", house.given(8, 0, 3), 0);
            due("pace(" + district + ", 8)", house.pace(district, 8), true);
            due("eight a day: the eighth", house.given(7, 0, 3), 0);
            due("eight a day: the ninth", house.given(8, 0, 3), 1);
            for (int v : new int[] {0, 10, -1, LEAST, MOST}) {
                due("pace(" + district + ", " + v + ")", house.pace(district, v), false);
                due("it stays at eight", house.given(8, 0, 3), 1);
            }
            for (int other : new int[] {-1, 6, LEAST, MOST}) {
                due("pace(" + other + ", 1)", house.pace(other, 1), false);
                due("it stays at eight", house.given(8, 0, 3), 1);
            }
        }
    }

    private static void paceOfOneDistrict() {
        sentence("Promise 7: The PACE of a DISTRICT's MAN");
        for (int district = 0; district < 6; district++) {
            PasteHouse house = nineOf(district);
            for (int other = 0; other < 6; other++) {
                if (other != district) {
                    due("pace(" + other + ", 1)", house.pace(other, 1), true);
                }
            }
            due("other men's pace is theirs", house.given(8, 0, 3), 2);
        }
    }

    private static void threeHundredFacts() {
        sentence("Promise 8: A FACT: its number. NONE, and nothing happens: 300 are there");
        PasteHouse house = new PasteHouse();
        addBoards(house, 0);
        for (int i = 0; i < 299; i++) {
            due("fact no. " + i, house.fact(2, 0, 0, 0), i);
        }
        due("the 300th", house.fact(1, 0, 0, 0), 299);
        due("a 301st", house.fact(2, 0, 0, 0), NONE);
        due("a 302nd", house.fact(4, 0, 0, 0), NONE);
        due("count(1)", house.count(1), 300);
        due("known by 299", house.state(0, 0, 299, 0), 0);
        due("known by 300", house.state(0, 0, 300, 0), 14);
        due("known by 301", house.state(0, 0, 301, 0), NONE);
        due("it is not lost", house.state(0, 0, 300, 3), 0);
    }

    private static void dueRefusedFact(PasteHouse house, int kind, int board, int fortnight, int day) {
        int before = house.count(1);
        due("fact(" + kind + ", " + board + ", " + fortnight + ", " + day + ")", house.fact(kind, board, fortnight, day), NONE);
        due("count(1)", house.count(1), before);
    }

    private static void factKinds() {
        sentence("Promise 8: A FACT (kind 0 .. 4) .. no such kind");
        PasteHouse house = new PasteHouse();
        addBoards(house, 0);
        for (int kind : new int[] {-1, 5, 6, LEAST, MOST}) {
            dueRefusedFact(house, kind, 0, 0, 0);
        }
        for (int kind = 0; kind <= 4; kind++) {
            due("fact(" + kind + ", 0, " + kind + ", 0)", house.fact(kind, 0, kind, 0), kind);
        }
        int[] looks = {2, 1, 0, 0, 0};
        for (int kind = 0; kind <= 4; kind++) {
            due("the look by kind " + kind, house.state(0, kind, 5, 20), looks[kind]);
            due("lost by kind " + kind, house.state(0, kind, 5, 3), kind == 4 ? 1 : 0);
        }
    }

    private static void factBoards() {
        sentence("Promise 8: .. no such .. BOARD");
        PasteHouse house = new PasteHouse();
        dueRefusedFact(house, 0, 0, 0, 0);
        addBoards(house, 0, 0);
        for (int board : new int[] {-1, 2, 8, 9, LEAST, MOST}) {
            for (int kind = 0; kind <= 4; kind++) {
                dueRefusedFact(house, kind, board, 0, 0);
            }
        }
        due("fact of board 0", house.fact(0, 0, 0, 0), 0);
        due("fact of board 1", house.fact(0, 1, 0, 0), 1);
        addBoards(house, 0, 0, 0, 0, 0, 0, 0);
        due("fact of board 8", house.fact(0, 8, 0, 0), 2);
        dueRefusedFact(house, 0, 9, 0, 0);
    }

    private static void factFortnights() {
        sentence("FORTNIGHTS go from 0 to 25");
        PasteHouse house = new PasteHouse();
        addBoards(house, 0);
        for (int fortnight : new int[] {-1, 26, LEAST, MOST}) {
            for (int kind = 0; kind <= 4; kind++) {
                dueRefusedFact(house, kind, 0, fortnight, 0);
            }
        }
        due("fact in fortnight 0", house.fact(1, 0, 0, 0), 0);
        due("fact in fortnight 25", house.fact(1, 0, 25, 0), 1);
        due("lost in fortnight 25", house.fact(4, 0, 25, 0), 2);
        due("shown in fortnight 0", house.state(0, 0, 3, 0), 14);
        due("shown in fortnight 25", house.state(0, 25, 3, 0), 14);
        due("not in fortnight 1", house.state(0, 1, 3, 0), 0);
        due("not in fortnight 24", house.state(0, 24, 3, 0), 0);
    }

    private static void factDays() {
        sentence("their DAYS from 0 to 13");
        PasteHouse house = new PasteHouse();
        addBoards(house, 0);
        for (int day : new int[] {-1, 14, 15, LEAST, MOST}) {
            for (int kind = 0; kind <= 4; kind++) {
                dueRefusedFact(house, kind, 0, 0, day);
            }
        }
        for (int kind = 0; kind < 4; kind++) {
            due("on day 0", house.fact(kind, 0, kind, 0), 2 * kind);
            due("on day 13", house.fact(kind, 0, kind, 13), 2 * kind + 1);
        }
        due("hung on day 0", house.state(0, 0, 1, 1), 14);
        due("seen on day 0", house.state(0, 1, 3, 0), 14);
    }

    private static void factDayOfLost() {
        sentence("Promise 8: .. DAY (0 for 4)");
        PasteHouse house = new PasteHouse();
        addBoards(house, 0);
        for (int day : new int[] {1, 2, 13, 14, -1, LEAST, MOST}) {
            dueRefusedFact(house, 4, 0, 0, day);
        }
        due("it is not lost", house.state(0, 0, 0, 3), 0);
        due("lost", house.fact(4, 0, 0, 0), 0);
        due("it is lost", house.state(0, 0, 1, 3), 1);
        due("a fact of a lost board is told still", house.fact(3, 0, 0, 1), 1);
        due("and lost again", house.fact(4, 0, 0, 0), 2);
    }

    private static void counts() {
        sentence("Promise 19: 0 BOARDS, 1 FACTS, 2 CAMPAIGNS, 3 CLAUSES, 4 FORTNIGHTS in which something is GIVEN, 5 bytes on the tape");
        PasteHouse house = houseWith("campaign a from 0 until 1;bar near 1;bar near 2;beside b;bar near 1;end campaign b from 0 until 1;end "
                + "campaign c from 0 until 1;end");
        addBoards(house, 0, 1);
        for (int i = 0; i < 7; i++) {
            house.fact(0, 0, 0, 0);
        }
        for (int fortnight = 0; fortnight < 5; fortnight++) {
            house.give(fortnight, 0);
        }
        house.feed(0, 0, 0, 0, 0);
        house.back(14);
        int[] counts = {2, 7, 3, 4, 5, 6};
        for (int what = 0; what < 6; what++) {
            due("count(" + what + ")", house.count(what), counts[what]);
        }
    }

    private static void countOthers() {
        sentence("Promise 19: NONE for others");
        PasteHouse house = new PasteHouse();
        for (int what : new int[] {-1, 6, 7, 20, LEAST, MOST}) {
            due("count(" + what + ")", house.count(what), NONE);
        }
        due("count(0)", house.count(0), 0);
        due("count(5)", house.count(5), 0);
    }

    private static void countFortnights() {
        sentence("Promise 19: 4 FORTNIGHTS in which something is GIVEN (also to none)");
        PasteHouse house = new PasteHouse();
        for (int fortnight = 25; fortnight >= 0; fortnight--) {
            due("give(" + fortnight + ", 0) to none", house.give(fortnight, 0), 0);
            due("count(4)", house.count(4), 26 - fortnight);
            due("give again", house.give(fortnight, 0), 0);
            due("mend", house.mend(fortnight, 0), 0);
            due("count(4)", house.count(4), 26 - fortnight);
        }
        due("give(26, 0)", house.give(26, 0), NONE);
        due("count(4)", house.count(4), 26);
    }

    /** All that an object can hold goes into its 512 calls. */
    private static void fullHouse() {
        sentence("BOARDS, 9 at most; FACTS, 300 at most; a text of at most 3,000 bytes; at most 512 calls");
        String text = "campaign a from 0 until 26;want 9 in 0 worth 9999;refund 100 if shown<14;bar near 7;end ";
        PasteHouse house = houseWith(text + " ".repeat(3000 - text.length()));
        for (int i = 0; i < 9; i++) {
            house.board(0, 9, 1000, 127, true);
        }
        for (int i = 0; i < 300; i++) {
            house.fact(i < 9 ? 4 : 1, i % 9, 25, 0);
        }
        due("give(25, 0)", house.give(25, 0), 9 * 9999);
        due("refund(0, 25, 0)", house.refund(0, 25, 0), 9 * 9999);
        due("refund(0, 25, 299)", house.refund(0, 25, 299), 0);
        due("reach(0, 25, 300)", house.reach(0, 25, 300), 1000);
        due("mend(25, 300)", house.mend(25, 300), 0);
        due("lacks(0, 25, 0)", house.lacks(0, 25, 0), 9);
        due("mend(25, 8)", house.mend(25, 8), 1);
        dueGiven(house, 25, NONE, NONE, NONE, NONE, NONE, NONE, NONE, NONE, 0);
        due("count(1)", house.count(1), 300);
    }
}
