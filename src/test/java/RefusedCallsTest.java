import java.util.function.Consumer;

/**
 * What a refused call, or one that only asks, leaves behind: all that can be asked of the house is
 * answered as by its twin on which that call was not made.
 */
public final class RefusedCallsTest extends Checks {
    private static final String TEXT = "campaign a from 0 until 26;want 2 in 0 worth 7;bar near 3;refund 50 if late==14;beside b;end "
            + "campaign b from 0 until 26;want 1 in 0 worth 3;want 1 in 5 worth 2;end campaign c from 2 until 3;end "
            + "campaign d from 2 until 3;end campaign e from 2 until 3;end";

    public static void main(String[] args) {
        feed();
        back();
        read();
        board();
        boardsAreFull();
        pace();
        fact();
        factsAreFull();
        give();
        mend();
        questions();
        finish(RefusedCallsTest.class);
    }

    private static PasteHouse house() {
        PasteHouse house = houseWith(TEXT);
        house.board(0, 5, 100, 0, true);
        house.board(0, 6, 200, 8, true);
        house.board(5, 7, 300, 0, true);
        house.board(0, 8, 400, 0, false);
        house.pace(0, 1);
        house.pace(5, 9);
        house.fact(0, 0, 0, 2);
        house.fact(1, 3, 25, 0);
        house.fact(4, 2, 25, 0);
        house.give(0, 0);
        house.give(25, 3);
        feed(house, "campaign ? from");
        house.read();
        feed(house, "campaign x from 0 until 0;end");
        return house;
    }

    /** All that can be asked of the house that stands above, within its calls, and then the tape. */
    private static String portrait(PasteHouse house) {
        StringBuilder text = new StringBuilder();
        for (int what = 0; what <= 5; what++) {
            text.append(house.count(what)).append(' ');
        }
        text.append(house.place()).append('\n');
        int facts = house.count(1);
        for (int fortnight : new int[] {0, 1, 2, 25}) {
            for (int board = 0; board < 4; board++) {
                for (int what = 0; what < 4; what++) {
                    text.append(house.given(board, fortnight, what)).append(' ');
                    text.append(house.state(board, fortnight, facts, what)).append(' ');
                }
                text.append(house.ground(board, fortnight, facts)).append(", ");
            }
            for (int campaign = 0; campaign < 2; campaign++) {
                text.append(house.refund(campaign, fortnight, facts)).append(' ');
                text.append(house.reach(campaign, fortnight, facts)).append(' ');
                text.append(house.lacks(campaign, fortnight, 0)).append(' ');
            }
            text.append('\n');
        }
        for (int board = 0; board < 4; board++) {
            text.append(house.bar(board, 0)).append(' ').append(house.may(board, 1)).append(' ');
        }
        text.append(house.mend(0, 0)).append(' ').append(house.mend(25, facts)).append(' ').append(house.give(1, facts));
        for (int board = 0; board < 4; board++) {
            text.append(' ').append(house.given(board, 1, 0)).append(' ').append(house.given(board, 1, 3));
        }
        text.append('\n').append(house.read()).append(' ').append(house.place()).append(' ').append(house.count(2));
        return text.append(' ').append(house.board(0, 1, 0, 0, false)).append(' ').append(house.fact(0, 0, 0, 0)).toString();
    }

    private static void dueUntouched(String words, Consumer<PasteHouse> calls) {
        sentence(words);
        PasteHouse touched = house();
        calls.accept(touched);
        due("the house behind it", portrait(touched), portrait(house()));
    }

    private static void feed() {
        sentence("Promise 2: NONE, and nothing comes, if it would have more than 3,000");
        PasteHouse touched = house();
        PasteHouse twin = house();
        for (PasteHouse one : new PasteHouse[] {touched, twin}) {
            for (int i = 0; i < 148; i++) {
                one.feed(0x20202020, 0x20202020, 0x20202020, 0x20202020, 0x20202020);
            }
        }
        due("count(5)", touched.count(5), 2989);
        due("feed beyond 3,000", touched.feed(0, 0, 0, 0, 0), NONE);
        due("the house behind it", portrait(touched), portrait(twin));
    }

    private static void back() {
        dueUntouched("Promise 3: NONE, and nothing goes, if it has not so many, or n is below 0", house -> {
            due("back(30)", house.back(30), NONE);
            due("back(-1)", house.back(-1), NONE);
            due("back(0)", house.back(0), 29);
        });
    }

    private static void read() {
        String[] faulty = {"campaign ? from", "campaign from", TEXT + TEXT.repeat(2), "campaign a from 0 until 1;end campaign a from 0 until 1;end",
            "campaign q from 0 until 1;beside r;end", "campaign q from 0 until 27;want 9 in 0 worth 1;end"};
        for (String text : faulty) {
            dueUntouched("A text with a FAULT changes nothing", house -> {
                house.back(29);
                feed(house, text);
                due("read() of " + brief(text), house.read() > 0, true);
                feed(house, "campaign ? from");
                house.read();
                feed(house, "campaign x from 0 until 0;end");
            });
        }
    }

    private static void board() {
        dueUntouched("Promise 6: NONE, and nothing happens: .. no such DISTRICT, QUALITY, AUDIENCE, MARKS", house -> {
            int[][] others = {{-1, 5, 5, 5}, {6, 5, 5, 5}, {5, 0, 5, 5}, {5, 10, 5, 5}, {5, 5, -1, 5}, {5, 5, 1001, 5}, {5, 5, 5, -1}, {5, 5, 5, 256}};
            for (int[] other : others) {
                due("board", house.board(other[0], other[1], other[2], other[3], true), NONE);
            }
        });
    }

    private static void boardsAreFull() {
        sentence("Promise 6: NONE, and nothing happens: 9 are there");
        PasteHouse touched = house();
        PasteHouse twin = house();
        for (PasteHouse one : new PasteHouse[] {touched, twin}) {
            for (int board = 4; board < 9; board++) {
                one.board(0, 5, 100, 0, true);
            }
        }
        due("a tenth board", touched.board(0, 5, 100, 0, true), NONE);
        due("the house behind it", portrait(touched), portrait(twin));
    }

    private static void pace() {
        dueUntouched("Promise 7: false: no such ones", house -> {
            int[][] others = {{-1, 5}, {6, 5}, {0, 0}, {0, 10}, {0, -1}, {5, 0}, {5, 10}, {6, 0}};
            for (int[] other : others) {
                due("pace(" + other[0] + ", " + other[1] + ")", house.pace(other[0], other[1]), false);
            }
        });
    }

    private static void fact() {
        dueUntouched("Promise 8: NONE, and nothing happens: .. no such kind, BOARD, FORTNIGHT, DAY (0 for 4)", house -> {
            int[][] others = {{-1, 0, 0, 0}, {5, 0, 0, 0}, {0, -1, 0, 0}, {0, 4, 0, 0}, {0, 0, -1, 0}, {0, 0, 26, 0}, {0, 0, 0, -1},
                {0, 0, 0, 14}, {4, 0, 0, 1}, {4, 0, 0, -1}, {4, 4, 0, 0}, {4, 0, 26, 0}};
            for (int[] other : others) {
                due("fact", house.fact(other[0], other[1], other[2], other[3]), NONE);
            }
        });
    }

    private static void factsAreFull() {
        sentence("Promise 8: NONE, and nothing happens: 300 are there");
        PasteHouse touched = house();
        PasteHouse twin = house();
        for (PasteHouse one : new PasteHouse[] {touched, twin}) {
            for (int i = 3; i < 300; i++) {
                one.fact(0, 1, 1, 5);
            }
        }
        due("a 301st fact", touched.fact(4, 0, 0, 0), NONE);
        due("a 302nd fact", touched.fact(1, 0, 0, 0), NONE);
        for (PasteHouse one : new PasteHouse[] {touched, twin}) {
            due("count(1)", one.count(1), 300);
            due("lost", one.state(0, 0, 300, 3), 0);
            due("shown", one.state(0, 0, 300, 0), 0);
            due("late", one.state(0, 0, 300, 2), 2);
            due("given", one.given(0, 0, 0), 0);
        }
    }

    private static void give() {
        dueUntouched("Promise 9: NONE, and nothing happens: no such ones; -2: FULL", house -> {
            int[][] others = {{-1, 0}, {26, 0}, {0, -1}, {0, 4}, {1, 4}, {25, 4}, {25, -1}, {2, 4}, {LEAST, LEAST}, {MOST, MOST}};
            for (int[] other : others) {
                due("give(" + other[0] + ", " + other[1] + ")", house.give(other[0], other[1]), NONE);
            }
            due("give(2, 3): five are in force", house.give(2, 3), FULL);
        });
    }

    private static void mend() {
        dueUntouched("Promise 10: NONE, and nothing happens: no such ones, or nothing is GIVEN in it", house -> {
            int[][] others = {{-1, 0}, {26, 0}, {0, -1}, {0, 4}, {25, 4}, {1, 0}, {1, 3}, {24, 3}, {2, 0}, {LEAST, 0}, {MOST, 0}};
            for (int[] other : others) {
                due("mend(" + other[0] + ", " + other[1] + ")", house.mend(other[0], other[1]), NONE);
            }
        });
    }

    /** Asking by itself changes nothing, be there an answer or none. */
    private static void questions() {
        dueUntouched("Nothing is promised beyond the .. state changes described", house -> {
            for (int ask : new int[] {-1, 0, 3, 9, 26}) {
                house.given(ask, 0, 0);
                house.may(ask, 0);
                house.bar(0, ask);
                house.lacks(ask, 0, 0);
                house.state(ask, 25, 3, 2);
                house.refund(0, 0, ask);
                house.ground(0, ask, 3);
                house.reach(ask, 25, 3);
                house.count(ask);
                house.place();
            }
        });
    }
}
