/** One method a promise: ordinary calls, the edges that the document names, wrong arguments. */
public final class PromisesTest extends Checks {
    public static void main(String[] args) {
        promise1NewObject();
        promise2Feed();
        promise3Back();
        promise4Read();
        promise4Tokens();
        promise4Syntax();
        promise4Room();
        promise4OtherFaults();
        promise5Place();
        promise6Board();
        promise7Pace();
        promise8Fact();
        promise9Give();
        promise9GiveBeside();
        promise9GiveFull();
        promise10Mend();
        promise11Given();
        promise12And13Bars();
        promise13Conditions();
        promise14Lacks();
        promise15State();
        promise16Refund();
        promise17Ground();
        promise18Reach();
        promise19Count();
        anyArguments();
        finish(PromisesTest.class);
    }

    private static void promise1NewObject() {
        PasteHouse house = new PasteHouse();
        for (int what = 0; what <= 5; what++) {
            due("new: count(" + what + ")", house.count(what), 0);
        }
        due("new: place()", house.place(), NONE);
        due("new: given(0, 0, 0)", house.given(0, 0, 0), NONE);
        due("new: mend(0, 0)", house.mend(0, 0), NONE);
        due("new: give(0, 0)", house.give(0, 0), 0);
        due("new: may(0, 0)", house.may(0, 0), NONE);
        due("NONE", PasteHouse.NONE, -1);
        PasteHouse other = new PasteHouse();
        due("objects are apart: count(4)", other.count(4), 0);
    }

    private static void promise2Feed() {
        PasteHouse house = new PasteHouse();
        for (int i = 1; i <= 150; i++) {
            due("feed no. " + i, house.feed(0x20202020, 0x09090909, 0x0a0a0a0a, 0x0d0d0d0d, 0x20202020), 20 * i);
        }
        due("feed beyond 3,000", house.feed(1, 2, 3, 4, 5), NONE);
        due("count(5)", house.count(5), 3000);
        due("back(19)", house.back(19), 2981);
        due("feed beyond 3,000 by one byte", house.feed(1, 2, 3, 4, 5), NONE);
        due("count(5)", house.count(5), 2981);
        due("back(1)", house.back(1), 2980);
        due("feed up to 3,000", house.feed(0x20202020, 0x20202020, 0x20202020, 0x20202020, 0x20202020), 3000);
        due("read() of 3,000 blanks", house.read(), 0);
        due("feed behind read()", house.feed(1, 2, 3, 4, 5), 20);
        PasteHouse order = new PasteHouse();
        order.feed(0x63616d70, 0x6169676e, 0x20612066, 0x726f6d20, 0x3020756e);
        order.feed(0x74696c20, 0x313b656e, 0x64202020, 0x20202020, 0x20202020);
        due("read(): the highest byte of a comes first", order.read(), 0);
        due("count(2)", order.count(2), 1);
        PasteHouse high = new PasteHouse();
        high.feed(0xff202020, 0, 0, 0, 0);
        due("a byte above 127 is no token", high.read(), 1);
        due("place()", high.place(), 0);
    }

    private static void promise3Back() {
        PasteHouse house = new PasteHouse();
        due("back(0) of an empty tape", house.back(0), 0);
        due("back(1) of an empty tape", house.back(1), NONE);
        house.feed(1, 2, 3, 4, 5);
        due("back(-1)", house.back(-1), NONE);
        due("back(least)", house.back(Integer.MIN_VALUE), NONE);
        due("back(21)", house.back(21), NONE);
        due("back(most)", house.back(Integer.MAX_VALUE), NONE);
        due("count(5)", house.count(5), 20);
        due("back(0)", house.back(0), 20);
        due("back(7)", house.back(7), 13);
        due("back(13)", house.back(13), 0);
    }

    private static void promise4Read() {
        PasteHouse house = houseWith("campaign a from 0 until 26; want 1 in 0 worth 5; end");
        house.board(0, 1, 1, 0, false);
        due("give(3, 0)", house.give(3, 0), 5);
        feed(house, "campaign");
        due("read() of half a text", house.read(), 1);
        due("the tape is empty behind a fault", house.count(5), 0);
        due("a fault changes nothing: count(2)", house.count(2), 1);
        due("a fault changes nothing: count(3)", house.count(3), 1);
        due("a fault changes nothing: count(4)", house.count(4), 1);
        due("a fault changes nothing: given(0, 3, 0)", house.given(0, 3, 0), 0);
        due("a fault changes nothing: give(4, 0)", house.give(4, 0), 5);
        due("give(0, 0)", house.give(0, 0), 5);
        due("read() of nothing", house.read(), 0);
        due("in place of the one ahead: count(2)", house.count(2), 0);
        due("in place of the one ahead: count(3)", house.count(3), 0);
        due("nothing is given: count(4)", house.count(4), 0);
        due("nothing is given: given(0, 3, 0)", house.given(0, 3, 0), NONE);
        due("nothing is given: given(0, 0, 2)", house.given(0, 0, 2), NONE);
        due("boards stay: count(0)", house.count(0), 1);
        due("give(3, 0)", house.give(3, 0), 0);
        feed(house, "campaign a from 0 until 1;end campaign b from 0 until 1;beside a;end");
        due("read() of two campaigns", house.read(), 0);
        feed(house, "campaign c from 0 until 1;beside b;end");
        due("a name of the text ahead is none of this one", house.read(), 4);
        String two = "campaign a from 0 until 1;want 1 in 0 worth 1;end campaign b from 0 until 1;want 1 in 0 worth 1;end";
        house.board(0, 1, 1, 0, true);
        feed(house, two);
        due("read() of two that may hang beside one another", house.read(), 0);
        due("give(0, 0): what the text ahead said is gone", house.give(0, 0), 2);
    }

    private static void promise4Tokens() {
        dueFault("campaign\ta\nfrom\r0 until 1;end", 0, NONE);
        dueFault("campaign a from0until1;bar(1)<=(2);want1in0worth1;end", 0, NONE);
        dueFault("campaign abcdefgh from 0 until 1;end", 0, NONE);
        dueFault("campaign abcdefghi from 0 until 1;end", 1, 9);
        dueFault("campaigna from 0 until 1;end", 1, 0);
        dueFault("campaign late from 0 until 1;end", 1, 9);
        dueFault("campaign from from 0 until 1;end", 1, 9);
        dueFault("campaign A from 0 until 1;end", 1, 9);
        dueFault("campaign a1 from 0 until 1;end", 1, 10);
        dueFault("campaign a from 0000 until 0001;end", 0, NONE);
        dueFault("campaign a from 00000 until 1;end", 1, 16);
        dueFault("campaign a from 0 until 1;bar 1=1;end", 1, 31);
        dueFault("campaign a from 0 until 1;bar 1===1;end", 1, 33);
        dueFault("campaign a from 0 until 1;bar 1!1;end", 1, 31);
        dueFault("campaign a from 0 until 1;bar 1< =1;end", 1, 33);
        dueFault("campaign a from 0 until 1;bar 1>1;end", 1, 31);
        dueFault("campaign a from 0 until 1;end.", 1, 29);
        dueFault("campaign a from 0 until 1;\u000bend", 1, 26);
    }

    private static void promise4Syntax() {
        dueFault("", 0, NONE);
        dueFault(" \n ", 0, NONE);
        dueFault("end", 1, 0);
        dueFault("campaign a from 0 until 1;", 1, 26);
        dueFault("campaign a from 0 until 1;  ", 1, 28);
        dueFault("campaign a until 1;", 1, 11);
        dueFault("campaign a from 0 until 1 end", 1, 26);
        dueFault("campaign a from 0 until 1;end;", 1, 29);
        dueFault("campaign a from 0 until 1;;end", 1, 26);
        dueFault("campaign a from x until 1;end", 1, 16);
        String head = "campaign a from 0 until 1;";
        dueFault(head + "want 1 in 0;end", 1, 37);
        dueFault(head + "want x in 0 worth 1;end", 1, 31);
        dueFault(head + "beside 1;end", 1, 33);
        dueFault(head + "beside end;end", 1, 33);
        dueFault(head + "refund 1 bar near 1;end", 1, 35);
        dueFault(head + "refund if near 1;end", 1, 33);
        dueFault(head + "bar;end", 1, 29);
        dueFault(head + "bar 1;end", 1, 31);
        dueFault(head + "bar near;end", 1, 34);
        dueFault(head + "bar near quality;end", 1, 35);
        dueFault(head + "bar near 1 + 1;end", 1, 37);
        dueFault(head + "bar 1<2<3;end", 1, 33);
        dueFault(head + "bar (1<2);end", 1, 32);
        dueFault(head + "bar 1<2 and;end", 1, 37);
        dueFault(head + "bar 1+<2;end", 1, 32);
        dueFault(head + "bar -1<2;end", 1, 30);
        dueFault(head + "bar 1)<2;end", 1, 31);
        dueFault(head + "bar (1<2;end", 1, 32);
        dueFault(head + "bar 1<(2;end", 1, 34);
        dueFault(head + "bar 1<2);end", 1, 33);
        dueFault(head + "bar ()<2;end", 1, 31);
        dueFault(head + "bar a<2;end", 1, 30);
        dueFault(head + "bar 1 2<2;end", 1, 32);
        dueFault(head + "bar 1<2 or not 1<2;end", 1, 37);
        dueFault(head + "bar 1<2 campaign;end", 1, 34);
        // Faults of form come ahead of all others, wherever those stand.
        dueFault("campaign a from 5 until 1; want 0 in 9 worth 1; beside x; end end", 1, 62);
    }

    private static String campaigns(int n) {
        StringBuilder text = new StringBuilder();
        for (int i = 0; i < n; i++) {
            text.append("campaign ").append((char) ('a' + i)).append(" from 0 until 1;end ");
        }
        return text.toString();
    }

    /** Six tokens ahead of the clauses, four a clause, and one behind them. */
    private static String bars(int n) {
        return "campaign a from 0 until 1;" + "bar near 1;".repeat(n) + "end";
    }

    private static void promise4Room() {
        dueFault(campaigns(8), 0, NONE);
        dueFault(campaigns(9), 2, 8 * 30);
        dueFault(campaigns(8) + "want", 1, 8 * 30);
        dueFault(bars(40), 0, NONE);
        dueFault(bars(41), 2, 26 + 40 * 11);
        dueFault("campaign a from 0 until 1;" + "beside a;".repeat(40) + "want", 2, 26 + 40 * 9);
        String head = "campaign a from 0 until 1;bar ";
        dueFault(head + "((((((1))))))<((((((1))))));end", 0, NONE);
        dueFault(head + "(((((((1)))))))<2;end", 2, 36);
        dueFault(head + "1<((((((1+(1)))))));end", 2, 40);
        dueFault(head + "((((((1))))))+((((((1))))))<2;end", 0, NONE);
        dueFault(head + "(((((((", 2, 36);
        // Seven tokens are the campaign's head, five the bar up to the sums, four what is behind them.
        String whole = "campaign a from 0 until 1;bar near 1 and 1" + "+1".repeat(292) + "<9;end";
        dueFault(whole, 0, NONE);
        dueFault(whole + " \n", 0, NONE);
        dueFault(whole + " campaign", 2, whole.length() + 1);
        // What cannot stand there at all is no lack of room, be it the 601st or not.
        dueFault(whole + " end", 1, whole.length() + 1);
        dueFault(whole + "?", 1, whole.length());
        // The 600th goes, the 601st does not, though the text could go on with it.
        String longer = "campaign a from 0 until 1;bar near 1 and 1" + "+1".repeat(293) + "<9;end";
        dueFault(longer, 2, longer.length() - 4);
        dueFault(longer.substring(0, longer.length() - 4), 1, longer.length() - 4);
        dueFault("campaign a from 0 until 1;bar 1" + "+1".repeat(293) + "<9;end", 0, NONE);
        String odd = "campaign a from 0 until 1;bar 1" + "+1".repeat(294) + "<9;end";
        dueFault(odd, 2, odd.length() - 3);
        // A syntax fault ahead of the lack of room is the first by its place.
        dueFault("campaign a until;" + campaigns(9), 1, 11);
        dueFault(campaigns(9) + "?", 2, 8 * 30);
    }

    private static void promise4OtherFaults() {
        dueFault("campaign a from 0 until 1;end campaign a from 0 until 1;end", 3, 39);
        dueFault("campaign ab from 0 until 1;end campaign ba from 0 until 1;end campaign aab from 0 until 1;end "
                + "campaign aba from 0 until 1;end campaign b from 0 until 1;end campaign zzzzzzzz from 0 until 1;end", 0, NONE);
        dueFault("campaign zzzzzzzz from 0 until 1;end campaign zzzzzzzz from 0 until 1;end", 3, 46);
        dueFault("campaign ab from 0 until 1;beside ba;end", 4, 34);
        dueFault("campaign a from 0 until 1;want 1 in 2 worth 1;want 1 in 02 worth 1;end", 3, 56);
        dueFault("campaign a from 0 until 1;want 1 in 2 worth 1;end campaign b from 0 until 1;want 1 in 2 worth 1;end",
                0, NONE);
        dueFault("campaign a from 0 until 1;beside b;end", 4, 33);
        dueFault("campaign a from 0 until 1;beside b;end campaign b from 0 until 1;end", 0, NONE);
        dueFault("campaign a from 0 until 1;end campaign b from 0 until 1;beside a;end", 0, NONE);
        dueFault("campaign a from 0 until 1;beside a;end", 5, 33);
        dueFault("campaign a from 3 until 3;end", 5, 24);
        dueFault("campaign a from 3 until 2;end", 5, 24);
        dueFault("campaign a from 25 until 26;end", 0, NONE);
        dueFault("campaign a from 25 until 27;end", 5, 25);
        dueFault("campaign a from 9999 until 9999;end", 5, 27);
        String head = "campaign a from 0 until 1;";
        dueFault(head + "want 0 in 0 worth 0;end", 5, 31);
        dueFault(head + "want 9 in 5 worth 9999;end", 0, NONE);
        dueFault(head + "want 10 in 5 worth 0;end", 5, 31);
        dueFault(head + "want 1 in 6 worth 0;end", 5, 36);
        dueFault(head + "refund 100 if near 7;end", 0, NONE);
        dueFault(head + "refund 101 if near 7;end", 5, 33);
        dueFault(head + "refund 100 if near 8;end", 5, 45);
        dueFault(head + "bar near 8;end", 5, 35);
        // The first by its place, whatever its number.
        dueFault(head + "beside z;bar near 9;end campaign a from 0 until 1;end", 4, 33);
        dueFault(head + "bar near 9;beside z;end campaign a from 0 until 1;end", 5, 35);
        dueFault(head + "want 1 in 0 worth 1;want 1 in 0 worth 1;beside z;end", 3, 56);
        dueFault(head + "want 1 in 7 worth 1;want 1 in 7 worth 1;end", 5, 36);
        dueFault(head + "end campaign a from 0 until 0;beside z;end", 3, 39);
    }

    private static void promise5Place() {
        PasteHouse house = new PasteHouse();
        due("place() without a read()", house.place(), NONE);
        feed(house, "campaign a from 0 until 0;end");
        due("read()", house.read(), 5);
        due("place()", house.place(), 24);
        due("place() again", house.place(), 24);
        house.feed(0, 0, 0, 0, 0);
        due("place() is the latest read()'s", house.place(), 24);
        due("read()", house.read(), 1);
        due("place()", house.place(), 0);
        due("read() of nothing", house.read(), 0);
        due("place() without a fault", house.place(), NONE);
    }

    private static void promise6Board() {
        PasteHouse house = new PasteHouse();
        due("no district", house.board(-1, 1, 0, 0, false), NONE);
        due("no district", house.board(6, 1, 0, 0, false), NONE);
        due("no quality", house.board(0, 0, 0, 0, false), NONE);
        due("no quality", house.board(0, 10, 0, 0, false), NONE);
        due("no audience", house.board(0, 1, -1, 0, false), NONE);
        due("no audience", house.board(0, 1, 1001, 0, false), NONE);
        due("no marks", house.board(0, 1, 0, -1, false), NONE);
        due("no marks", house.board(0, 1, 0, 256, false), NONE);
        due("count(0)", house.count(0), 0);
        due("least", house.board(0, 1, 0, 0, false), 0);
        due("most", house.board(5, 9, 1000, 255, true), 1);
        for (int i = 2; i < 9; i++) {
            due("board no. " + i, house.board(0, 1, 0, 0, true), i);
        }
        due("a tenth board", house.board(0, 1, 0, 0, true), NONE);
        due("count(0)", house.count(0), 9);
    }

    private static void promise7Pace() {
        PasteHouse house = houseWith("campaign a from 0 until 1;want 9 in 2 worth 1;want 9 in 3 worth 1;end");
        for (int i = 0; i < 8; i++) {
            house.board(2, 1, 0, 0, false);
        }
        house.board(3, 1, 0, 0, false);
        due("give(0, 0)", house.give(0, 0), 9);
        due("three a day at first", house.given(2, 0, 3), 0);
        due("three a day at first", house.given(3, 0, 3), 1);
        due("three a day at first", house.given(7, 0, 3), 2);
        due("pace(2, 1)", house.pace(2, 1), true);
        due("one a day", house.given(7, 0, 3), 7);
        due("pace(2, 9)", house.pace(2, 9), true);
        due("nine a day", house.given(7, 0, 3), 0);
        due("pace(2, 2)", house.pace(2, 2), true);
        due("no such pace", house.pace(2, 0), false);
        due("no such pace", house.pace(2, 10), false);
        due("no such pace", house.pace(2, -1), false);
        due("no such district", house.pace(-1, 1), false);
        due("no such district", house.pace(6, 1), false);
        due("a wrong pace changes nothing", house.given(7, 0, 3), 3);
        due("another district's pace", house.pace(3, 1), true);
        due("it changes nothing here", house.given(7, 0, 3), 3);
        due("it counts its own boards", house.given(8, 0, 3), 0);
        due("pace of the last district", house.pace(5, 9), true);
    }

    private static void promise8Fact() {
        PasteHouse house = new PasteHouse();
        due("no board yet", house.fact(0, 0, 0, 0), NONE);
        house.board(0, 1, 0, 0, false);
        due("hung", house.fact(0, 0, 0, 0), 0);
        due("torn", house.fact(3, 0, 25, 13), 1);
        due("no such kind", house.fact(-1, 0, 0, 0), NONE);
        due("no such kind", house.fact(5, 0, 0, 0), NONE);
        due("no such board", house.fact(0, 1, 0, 0), NONE);
        due("no such board", house.fact(0, -1, 0, 0), NONE);
        due("no such fortnight", house.fact(0, 0, 26, 0), NONE);
        due("no such fortnight", house.fact(0, 0, -1, 0), NONE);
        due("no such day", house.fact(0, 0, 0, 14), NONE);
        due("no such day", house.fact(0, 0, 0, -1), NONE);
        due("lost on day 1", house.fact(4, 0, 0, 1), NONE);
        due("lost", house.fact(4, 0, 25, 0), 2);
        due("of a lost board as well", house.fact(1, 0, 25, 0), 3);
        for (int i = 4; i < 300; i++) {
            due("fact no. " + i, house.fact(2, 0, 1, i % 14), i);
        }
        due("a 301st fact", house.fact(0, 0, 0, 0), NONE);
        due("count(1)", house.count(1), 300);
        due("known by 300", house.state(0, 25, 300, 3), 1);
        due("known by 301", house.state(0, 25, 301, 3), NONE);
    }

    private static void promise9Give() {
        // Clauses: 0 want, 1 bar, 2 want; 3 want, 4 want; 5 want.
        PasteHouse house = houseWith("campaign a from 0 until 2;want 1 in 0 worth 7;bar quality<3;want 2 in 1 worth 1;end "
                + "campaign b from 1 until 3;want 2 in 0 worth 7;want 1 in 1 worth 1;end "
                + "campaign c from 2 until 26;want 9 in 0 worth 0;end");
        house.board(0, 2, 0, 0, false);
        house.board(0, 3, 0, 0, false);
        house.board(0, 3, 0, 0, false);
        house.board(1, 9, 0, 0, false);
        due("no such fortnight", house.give(-1, 0), NONE);
        due("no such fortnight", house.give(26, 0), NONE);
        due("no such n", house.give(0, -1), NONE);
        due("no such n", house.give(0, 1), NONE);
        due("nothing happens: count(4)", house.count(4), 0);
        due("give(0, 0): not more than the want says, no bar broken", house.give(0, 0), 8);
        dueGiven(house, 0, NONE, 0, NONE, 2);
        due("give(1, 0): of alike ones the least clause of board 0 first", house.give(1, 0), 22);
        dueGiven(house, 1, 3, 0, 3, 2);
        due("give(2, 0): a is not in force with its until", house.give(2, 0), 15);
        dueGiven(house, 2, 3, 3, 5, 4);
        due("give(3, 0): worth 0 is less of a clause than none", house.give(3, 0), 0);
        dueGiven(house, 3, 5, 5, 5, NONE);
        due("give(25, 0)", house.give(25, 0), 0);
        dueGiven(house, 25, 5, 5, 5, NONE);
        due("a board is lost from fortnight 2 on", house.fact(4, 2, 2, 0), 0);
        due("give(1, 1)", house.give(1, 1), 22);
        due("give(2, 1)", house.give(2, 1), 15);
        dueGiven(house, 2, 3, 3, NONE, 4);
        due("give(3, 1)", house.give(3, 1), 0);
        dueGiven(house, 3, 5, 5, NONE, NONE);
        due("give(3, 0): as known by 0 it is not lost", house.give(3, 0), 0);
        dueGiven(house, 3, 5, 5, 5, NONE);
        due("count(4)", house.count(4), 5);
    }

    private static void promise9GiveBeside() {
        String wants = "want 3 in 0 worth 4;";
        PasteHouse house = houseWith("campaign a from 0 until 9;" + wants + "end campaign b from 0 until 9;want 3 in 0 worth 5;"
                + "beside a;end campaign c from 0 until 9;want 1 in 1 worth 9;end");
        house.board(0, 1, 0, 0, true);
        house.board(0, 1, 0, 0, true);
        house.board(1, 1, 0, 0, true);
        house.board(0, 1, 0, 0, true);
        house.board(0, 1, 0, 0, true);
        // b may have three: two and one, or one and two; a has the others where no b hangs beside.
        due("give(0, 0)", house.give(0, 0), 5 + 5 + 9 + 4 + 4);
        dueGiven(house, 0, 0, 0, 3, 1, 1);
        due("the board between is lost", house.fact(4, 2, 0, 0), 0);
        due("give(0, 1): its neighbours are not beside one another", house.give(0, 1), 18);
        dueGiven(house, 0, 0, 0, NONE, 1, 1);
        PasteHouse first = houseWith("campaign a from 0 until 9;want 1 in 0 worth 4;beside b;end "
                + "campaign b from 0 until 9;want 1 in 0 worth 5;end");
        first.board(0, 1, 0, 0, true);
        first.board(0, 1, 0, 0, true);
        due("told by the one alone, it counts for both", first.give(0, 0), 5);
        dueGiven(first, 0, 2, NONE);
        first.board(0, 1, 0, 0, false);
        due("a board that hangs apart", first.give(0, 0), 9);
        dueGiven(first, 0, 0, NONE, 2);
    }

    private static void promise9GiveFull() {
        StringBuilder text = new StringBuilder();
        for (int i = 0; i < 5; i++) {
            text.append("campaign ").append((char) ('a' + i)).append(" from ").append(i == 4 ? 1 : 0).append(" until ")
                    .append(i == 3 ? 3 : 4).append(";want 1 in 0 worth 1;end ");
        }
        PasteHouse house = houseWith(text.toString());
        due("four are in force", house.give(0, 0), 0);
        due("five are in force", house.give(1, 0), -2);
        due("five are in force", house.give(2, 0), -2);
        due("four are in force", house.give(3, 0), 0);
        due("none is in force", house.give(4, 0), 0);
        due("NONE goes ahead of FULL", house.give(1, 1), NONE);
        due("nothing is given in it", house.mend(1, 0), NONE);
        due("four are in force", house.mend(3, 0), 0);
        due("count(4)", house.count(4), 3);
    }

    private static void promise10Mend() {
        PasteHouse house = houseWith("campaign a from 0 until 26;want 1 in 0 worth 5;end "
                + "campaign b from 0 until 26;want 1 in 0 worth 5;end campaign c from 0 until 26;want 1 in 0 worth 5;end");
        for (int i = 0; i < 4; i++) {
            house.board(0, 1, 0, 0, false);
        }
        due("nothing is given in it", house.mend(7, 0), NONE);
        due("give(7, 0)", house.give(7, 0), 15);
        dueGiven(house, 7, 0, 1, 2, NONE);
        due("no such fortnight", house.mend(26, 0), NONE);
        due("no such fortnight", house.mend(-1, 0), NONE);
        due("no such n", house.mend(7, 1), NONE);
        due("no such n", house.mend(7, -1), NONE);
        due("lost from fortnight 8 on", house.fact(4, 0, 8, 0), 0);
        due("mend(7, 1): not lost yet", house.mend(7, 1), 0);
        due("lost from fortnight 5 on", house.fact(4, 0, 5, 0), 1);
        due("mend(7, 2): one moves, where a giving would move all", house.mend(7, 2), 1);
        dueGiven(house, 7, NONE, 1, 2, 0);
        due("mend(7, 0): it stays, though board 0 is back", house.mend(7, 0), 0);
        dueGiven(house, 7, NONE, 1, 2, 0);
        due("another is lost", house.fact(4, 3, 0, 0), 2);
        due("mend(7, 3): nobody is left to move; the lost are not counted", house.mend(7, 3), 0);
        dueGiven(house, 7, NONE, 1, 2, NONE);
        due("mend(7, 0): of the fewest moves the first by clauses", house.mend(7, 0), 1);
        dueGiven(house, 7, 0, 1, 2, NONE);
        due("give(7, 2)", house.give(7, 2), 15);
        dueGiven(house, 7, NONE, 0, 1, 2);
        due("count(4)", house.count(4), 1);
        due("a new board", house.board(0, 1, 0, 0, false), 4);
        due("mend(7, 2): it is given to none", house.mend(7, 2), 0);
        dueGiven(house, 7, NONE, 0, 1, 2, NONE);
        PasteHouse worth = houseWith("campaign a from 0 until 1;want 1 in 0 worth 2;end campaign b from 0 until 1;"
                + "want 1 in 0 worth 1;bar quality==1;end campaign c from 0 until 1;want 1 in 0 worth 0;end");
        worth.board(0, 2, 0, 0, false);
        worth.board(0, 2, 0, 0, false);
        worth.board(0, 1, 0, 0, false);
        due("give(0, 0)", worth.give(0, 0), 3);
        dueGiven(worth, 0, 0, 1, 3);
        due("board 1 is lost", worth.fact(4, 1, 0, 0), 0);
        due("mend(0, 1): the most worth goes ahead of few moves", worth.mend(0, 1), 2);
        dueGiven(worth, 0, 1, NONE, 0);
    }

    private static void promise11Given() {
        PasteHouse house = houseWith("campaign a from 0 until 1;bar quality==9;want 8 in 1 worth 12;end "
                + "campaign b from 0 until 1;want 1 in 0 worth 3;end");
        for (int i = 0; i < 5; i++) {
            house.board(1, i == 1 ? 9 : 1, 0, 0, false);
        }
        house.board(0, 1, 0, 0, false);
        due("nothing is given: clause", house.given(0, 0, 0), NONE);
        due("nothing is given: worth", house.given(0, 0, 2), NONE);
        due("give(0, 0)", house.give(0, 0), 51);
        due("clause", house.given(0, 0, 0), 1);
        due("campaign", house.given(0, 0, 1), 0);
        due("worth", house.given(0, 0, 2), 12);
        due("due", house.given(0, 0, 3), 0);
        due("none's clause", house.given(1, 0, 0), NONE);
        due("none's campaign", house.given(1, 0, 1), NONE);
        due("none's worth", house.given(1, 0, 2), 0);
        due("none's due", house.given(1, 0, 3), NONE);
        due("due: boards that are not given do not count", house.given(3, 0, 3), 0);
        due("due: the fourth given one", house.given(4, 0, 3), 1);
        due("due: a district's own", house.given(5, 0, 3), 0);
        due("campaign", house.given(5, 0, 1), 1);
        due("clause", house.given(5, 0, 0), 2);
        due("no such what", house.given(0, 0, 4), NONE);
        due("no such what", house.given(0, 0, -1), NONE);
        due("no such board", house.given(6, 0, 2), NONE);
        due("no such board", house.given(-1, 0, 2), NONE);
        due("nothing is given in it", house.given(0, 1, 2), NONE);
        due("no such fortnight", house.given(0, 26, 2), NONE);
        due("no such fortnight", house.given(0, -1, 2), NONE);
        house.board(1, 1, 0, 0, false);
        due("a board told behind the giving: clause", house.given(6, 0, 0), NONE);
        due("a board told behind the giving: worth", house.given(6, 0, 2), 0);
        due("it is lost", house.fact(4, 4, 0, 0), 0);
        due("what is given stays given", house.given(4, 0, 0), 1);
        due("its due too", house.given(4, 0, 3), 1);
    }

    private static void promise12And13Bars() {
        PasteHouse house = houseWith("campaign a from 0 until 1;want 1 in 0 worth 1;bar near 0 and near 7;"
                + "bar audience==500;end campaign b from 3 until 4;bar 500<=audience;bar district==0;end "
                + "campaign c from 0 until 1;end campaign d from 0 until 1;bar 1==1;end");
        house.board(0, 5, 500, 129, false);
        house.board(1, 5, 500, 128, false);
        house.board(2, 5, 499, 1, false);
        int[][] bars = {{1, 3, NONE, 5}, {2, 3, NONE, 5}, {NONE, NONE, NONE, 5}};
        for (int board = 0; board < 3; board++) {
            for (int campaign = 0; campaign < 4; campaign++) {
                String asks = "(" + board + ", " + campaign + ")";
                due("bar" + asks, house.bar(board, campaign), bars[board][campaign]);
                due("may" + asks, house.may(board, campaign), bars[board][campaign] == NONE ? 1 : 0);
            }
        }
        int[][] others = {{-1, 3}, {3, 3}, {0, -1}, {0, 4}};
        for (int[] other : others) {
            due("may: no such ones", house.may(other[0], other[1]), NONE);
            due("bar: no such ones", house.bar(other[0], other[1]), NONE);
        }
    }

    private static void dueHolds(String condition, boolean holds) {
        PasteHouse house = houseWith("campaign a from 0 until 1;bar " + condition + ";end");
        house.board(2, 7, 300, 8, false);
        due("may(0, 0) by bar " + condition, house.may(0, 0), holds ? 0 : 1);
    }

    private static void promise13Conditions() {
        dueHolds("near 3", true);
        dueHolds("near 2", false);
        dueHolds("district==2", true);
        dueHolds("quality==7", true);
        dueHolds("audience==300", true);
        dueHolds("shown+unseen+late==0", true);
        dueHolds("quality!=7", false);
        dueHolds("quality!=8", true);
        dueHolds("quality<7", false);
        dueHolds("quality<8", true);
        dueHolds("quality<=7", true);
        dueHolds("quality<=6", false);
        dueHolds("1+2*3==7", true);
        dueHolds("2*3+1==7", true);
        dueHolds("(1+2)*3==9", true);
        dueHolds("10-3-2==5", true);
        dueHolds("10-(3-2)==9", true);
        dueHolds("10-(3-2)==5", false);
        dueHolds("2*(1+2)==6", true);
        dueHolds("2*(1+2)==4", false);
        dueHolds("(2)*(1+2)*(2)-1==11", true);
        dueHolds("(2)*(1+2)*(2)-1==12", false);
        dueHolds("0==1 or 0==1 or 1+(2)==4", false);
        dueHolds("near 2 or near 3 and 1+1*(1+1*(1+1*(1+1*(1+1*(1+1*(1+1*1))))))==8", true);
        dueHolds("near 2 or near 3 and 1+1*(1+1*(1+1*(1+1*(1+1*(1+1*(1+1*1))))))==7", false);
        dueHolds("near 2 or near 3 and 7==0+1*(0+1*(0+1*(0+1*(0+1*(0+1*(6+1*1))))))", true);
        dueHolds("near 2 or near 3 and 6==0+1*(0+1*(0+1*(0+1*(0+1*(0+1*(6+1*1))))))", false);
        dueHolds("10-3+2==9", true);
        dueHolds("0-1<0", true);
        dueHolds("2*(quality-district)*(1+1)==20", true);
        dueHolds("1==1+0*5 and 2<=1+1", true);
        dueHolds("near 3 or near 2 and near 1", true);
        dueHolds("near 2 and near 3 or near 3", true);
        dueHolds("near 2 and near 3 or near 1", false);
        dueHolds("near 3 and near 2 or near 3 and near 1", false);
        // 9999 * 9999 * 9999 wraps to a negative number: 999700029999 less 233 times 2 to the 32nd.
        dueHolds("9999*9999*9999<0", 9999 * 9999 * 9999 < 0);
        dueHolds("9999*9999*30<0", true);
        dueHolds("2048*2048*1024==0", true);
        dueHolds("2048*2048*512<0", true);
        dueHolds("2048*2048*512-1<0", false);
        dueHolds("((((((1+1)+1)+1)+1)+1)+1)==7", true);
        dueHolds("1+(1+(1+(1+(1+(1+1*2)*2)*2)*2)*2)*2==1+2*(1+2*(1+2*(1+2*(1+2*(1+2*1)))))", true);
    }

    private static void promise14Lacks() {
        PasteHouse house = houseWith("campaign a from 0 until 2;want 3 in 0 worth 1;want 2 in 1 worth 1;bar near 0;end "
                + "campaign b from 1 until 2;want 1 in 0 worth 2;end");
        house.board(0, 1, 0, 0, false);
        house.board(0, 1, 0, 0, false);
        house.board(1, 1, 0, 1, false);
        due("nothing is given in it", house.lacks(0, 0, 0), NONE);
        due("give(0, 0)", house.give(0, 0), 2);
        due("short of one", house.lacks(0, 0, 0), 1);
        due("short of all", house.lacks(0, 0, 1), 2);
        due("no want of it", house.lacks(0, 0, 5), 0);
        due("not in force", house.lacks(1, 0, 0), NONE);
        due("no such campaign", house.lacks(2, 0, 0), NONE);
        due("no such campaign", house.lacks(-1, 0, 0), NONE);
        due("no such district", house.lacks(0, 0, 6), NONE);
        due("no such district", house.lacks(0, 0, -1), NONE);
        due("no such fortnight", house.lacks(0, 26, 0), NONE);
        due("no such fortnight", house.lacks(0, -1, 0), NONE);
        due("nothing is given in it", house.lacks(0, 1, 0), NONE);
        due("give(1, 0)", house.give(1, 0), 3);
        due("short of two", house.lacks(0, 1, 0), 2);
        due("short of none", house.lacks(1, 1, 0), 0);
        due("give(2, 0)", house.give(2, 0), 0);
        due("not in force any more", house.lacks(0, 2, 0), NONE);
    }

    private static void dueDays(PasteHouse house, int n, String looks) {
        for (int day = 0; day < 14; day++) {
            due("state(0, 5, " + n + ", " + (20 + day) + ")", house.state(0, 5, n, 20 + day), looks.charAt(day) - '0');
        }
        due("shown as known by " + n, house.state(0, 5, n, 0), looks.chars().filter(c -> c == '1').count());
        due("unseen as known by " + n, house.state(0, 5, n, 1), looks.chars().filter(c -> c == '2').count());
    }

    private static void promise15State() {
        PasteHouse house = houseWith("campaign a from 0 until 26;want 1 in 0 worth 1;end");
        house.board(0, 1, 0, 0, false);
        house.board(0, 1, 0, 0, false);
        due("hung", house.fact(0, 0, 5, 4), 0);
        due("amiss", house.fact(2, 0, 5, 8), 1);
        due("seen", house.fact(1, 0, 5, 6), 2);
        due("torn", house.fact(3, 0, 5, 12), 3);
        due("seen on the same day", house.fact(1, 0, 5, 12), 4);
        due("hung earlier", house.fact(0, 0, 5, 2), 5);
        due("amiss on the last day", house.fact(2, 0, 5, 13), 6);
        due("another board", house.fact(1, 1, 5, 0), 7);
        due("another fortnight", house.fact(1, 0, 4, 0), 8);
        due("seen ahead of all", house.fact(1, 0, 5, 0), 9);
        dueDays(house, 0, "00000000000000");
        dueDays(house, 1, "00002222222222");
        dueDays(house, 2, "00002222000000");
        dueDays(house, 3, "00002211000000");
        dueDays(house, 4, "00002211000000");
        dueDays(house, 5, "00002211000011");
        dueDays(house, 6, "00222211000011");
        dueDays(house, 7, "00222211000010");
        dueDays(house, 9, "00222211000010");
        dueDays(house, 10, "11111111000010");
        due("late of what is not given", house.state(0, 5, 10, 2), 0);
        due("give(5, 0)", house.give(5, 0), 1);
        due("late: never hung", house.state(0, 5, 0, 2), 14);
        due("late: hung on day 4", house.state(0, 5, 1, 2), 4);
        due("late: the first day", house.state(0, 5, 6, 2), 2);
        due("late of what is given to none", house.state(1, 5, 10, 2), 0);
        due("lost", house.fact(4, 0, 6, 0), 10);
        due("lost, not known yet", house.state(0, 6, 10, 3), 0);
        due("lost", house.state(0, 6, 11, 3), 1);
        due("lost from then on", house.state(0, 25, 11, 3), 1);
        due("not lost ahead", house.state(0, 5, 11, 3), 0);
        due("lost in it as well", house.fact(4, 0, 5, 0), 11);
        dueDays(house, 12, "11111111000010");
        due("another board is hung", house.fact(0, 1, 9, 3), 12);
        due("and lost", house.fact(4, 1, 9, 0), 13);
        due("lost is no proof", house.state(1, 9, 14, 1), 11);
        due("another is not lost", house.state(1, 6, 11, 3), 0);
        int[] others = {-1, 4, 5, 19, 34, Integer.MAX_VALUE, Integer.MIN_VALUE};
        for (int what : others) {
            due("no such what " + what, house.state(0, 5, 0, what), NONE);
        }
        due("no such board", house.state(2, 5, 0, 0), NONE);
        due("no such board", house.state(-1, 5, 0, 3), NONE);
        due("no such fortnight", house.state(0, 26, 0, 0), NONE);
        due("no such fortnight", house.state(0, -1, 0, 20), NONE);
        due("no such n", house.state(0, 5, 15, 0), NONE);
        due("no such n", house.state(0, 5, -1, 0), NONE);
    }

    private static void promise16Refund() {
        // Clauses: 0 want, 1 refund, 2 refund, 3 refund; 4 want, 5 refund.
        PasteHouse house = houseWith("campaign a from 0 until 3;want 2 in 0 worth 33;refund 100 if late==14 and near 1;"
                + "refund 50 if unseen<3 and shown==0 or late==14;refund 10 if 0<late;end "
                + "campaign b from 1 until 3;want 1 in 1 worth 9999;refund 100 if shown==0;end");
        house.board(0, 1, 0, 0, false);
        house.board(0, 1, 0, 2, false);
        house.board(1, 1, 0, 0, false);
        due("nothing is given in it", house.refund(0, 0, 0), NONE);
        due("give(0, 0)", house.give(0, 0), 66);
        due("half of 33, the whole part, and all of 33", house.refund(0, 0, 0), 16 + 33);
        due("not in force: nothing is given to it", house.refund(1, 0, 0), 0);
        due("hung on day 1", house.fact(0, 0, 0, 1), 0);
        due("late: a tenth, the whole part", house.refund(0, 0, 1), 3 + 33);
        due("as known by 0", house.refund(0, 0, 0), 49);
        due("hung on day 0", house.fact(0, 1, 0, 0), 1);
        due("not late: nothing", house.refund(0, 0, 2), 3);
        due("give(1, 0)", house.give(1, 0), 66 + 9999);
        due("all of 9999", house.refund(1, 1, 0), 9999);
        due("seen", house.fact(1, 2, 1, 13), 2);
        due("nothing", house.refund(1, 1, 3), 0);
        due("no such campaign", house.refund(2, 0, 0), NONE);
        due("no such campaign", house.refund(-1, 0, 0), NONE);
        due("no such fortnight", house.refund(0, 26, 0), NONE);
        due("no such fortnight", house.refund(0, -1, 0), NONE);
        due("no such n", house.refund(0, 0, 4), NONE);
        due("no such n", house.refund(0, 0, -1), NONE);
        due("nothing is given in it", house.refund(0, 2, 0), NONE);
        PasteHouse twice = houseWith("campaign a from 0 until 1;want 2 in 0 worth 15;refund 10 if 0==0;end");
        twice.board(0, 1, 0, 0, false);
        twice.board(0, 1, 0, 0, false);
        due("give(0, 0)", twice.give(0, 0), 30);
        due("the whole part is taken of each board", twice.refund(0, 0, 0), 2);
    }

    private static void promise17Ground() {
        PasteHouse house = houseWith("campaign a from 0 until 3;refund 5 if near 0;want 3 in 0 worth 33;bar near 2;"
                + "refund 7 if near 1 or near 0;end campaign b from 0 until 3;refund 9 if 1==1;end");
        int[] marks = {0, 1, 2, 3, 4};
        for (int mark : marks) {
            house.board(0, 1, 0, mark, false);
        }
        due("nothing is given in it", house.ground(1, 0, 0), NONE);
        due("give(0, 0)", house.give(0, 0), 99);
        dueGiven(house, 0, 1, 1, 1, NONE, NONE);
        due("no refund holds", house.ground(0, 0, 0), NONE);
        due("the first of two", house.ground(1, 0, 0), 0);
        due("the second", house.ground(2, 0, 0), 3);
        due("not given", house.ground(3, 0, 0), NONE);
        due("barred", house.ground(4, 0, 0), NONE);
        due("refund of all", house.refund(0, 0, 0), 1 + 2);
        due("no such board", house.ground(5, 0, 0), NONE);
        due("no such board", house.ground(-1, 0, 0), NONE);
        due("no such fortnight", house.ground(1, 26, 0), NONE);
        due("no such fortnight", house.ground(1, -1, 0), NONE);
        due("no such n", house.ground(1, 0, 1), NONE);
        due("no such n", house.ground(1, 0, -1), NONE);
    }

    private static void promise18Reach() {
        PasteHouse house = houseWith("campaign a from 0 until 1;want 3 in 0 worth 5;want 1 in 5 worth 5;end "
                + "campaign b from 0 until 1;want 9 in 0 worth 1;end");
        int[] audiences = {100, 300, 200, 900};
        for (int audience : audiences) {
            house.board(0, 1, audience, 0, false);
        }
        house.board(5, 1, 1000, 0, false);
        due("nothing is given in it", house.reach(0, 0, 0), NONE);
        due("give(0, 0)", house.give(0, 0), 21);
        dueGiven(house, 0, 0, 0, 0, 2, 1);
        due("nothing is shown", house.reach(0, 0, 0), 0);
        house.fact(1, 0, 0, 13);
        house.fact(1, 2, 0, 0);
        house.fact(3, 2, 0, 1);
        house.fact(0, 1, 0, 0);
        house.fact(1, 3, 0, 0);
        house.fact(1, 4, 0, 0);
        house.fact(1, 1, 1, 0);
        due("one day is enough", house.reach(0, 0, 1), 100);
        due("counted once a district", house.reach(0, 0, 2), 200);
        due("torn later", house.reach(0, 0, 3), 200);
        due("hung is not shown", house.reach(0, 0, 4), 200);
        due("another campaign's board", house.reach(0, 0, 5), 200);
        due("another campaign's", house.reach(1, 0, 5), 900);
        due("districts together", house.reach(0, 0, 6), 1200);
        due("another fortnight", house.reach(0, 0, 7), 1200);
        house.fact(2, 2, 0, 0);
        due("amiss on the same day: never shown", house.reach(0, 0, 8), 1100);
        due("no such campaign", house.reach(2, 0, 0), NONE);
        due("no such campaign", house.reach(-1, 0, 0), NONE);
        due("no such fortnight", house.reach(0, 26, 0), NONE);
        due("no such fortnight", house.reach(0, -1, 0), NONE);
        due("no such n", house.reach(0, 0, 9), NONE);
        due("no such n", house.reach(0, 0, -1), NONE);
        due("nothing is given in it", house.reach(0, 1, 0), NONE);
    }

    private static void promise19Count() {
        PasteHouse house = houseWith("campaign a from 0 until 1;bar near 1;beside b;end campaign b from 0 until 1;end");
        house.board(0, 1, 0, 0, false);
        house.board(0, 1, 0, 0, false);
        house.board(0, 1, 0, 0, false);
        house.fact(0, 0, 0, 0);
        house.give(4, 0);
        house.give(0, 0);
        house.give(4, 1);
        house.give(25, 1);
        house.give(9, 1);
        house.feed(1, 2, 3, 4, 5);
        house.back(1);
        int[] counts = {3, 1, 2, 2, 4, 19, NONE};
        for (int what = 0; what < counts.length; what++) {
            due("count(" + what + ")", house.count(what), counts[what]);
        }
        due("count(-1)", house.count(-1), NONE);
        due("count(most)", house.count(Integer.MAX_VALUE), NONE);
    }

    /** No call may throw, whatever its arguments are, be it far behind the 512th (where its answer is free). */
    private static void anyArguments() {
        PasteHouse house = houseWith("campaign a from 0 until 26;want 2 in 0 worth 3;refund 5 if 0==0;end");
        house.board(0, 1, 5, 0, true);
        house.fact(1, 0, 0, 0);
        house.give(0, 1);
        int[] odd = {Integer.MIN_VALUE, -2, -1, 0, 1, 2, 14, 26, 33, 300, 301, Integer.MAX_VALUE - 20, Integer.MAX_VALUE};
        for (int a : odd) {
            house.back(a);
            house.count(a);
            for (int b : odd) {
                house.may(a, b);
                house.bar(a, b);
                house.give(a, b);
                house.mend(a, b);
                house.pace(a, b);
                for (int c : odd) {
                    house.given(a, b, c);
                    house.lacks(a, b, c);
                    house.refund(a, b, c);
                    house.ground(a, b, c);
                    house.reach(a, b, c);
                    for (int d : odd) {
                        house.state(a, b, c, d);
                        house.fact(a, b, c, d);
                        house.board(a, b, c, d, true);
                    }
                }
            }
        }
    }
}
