import java.util.ArrayList;
import java.util.List;

/** The contracts' text, its tokens, its grammar and its faults (part II of the terms, promises 4 and 5). */
public final class TextBoundariesTest extends Checks {
    private static final String HEAD = "campaign x from 0 until 26;";
    private static final String[] WORDS = {"campaign", "from", "until", "end", "want", "in", "worth", "bar", "beside",
        "refund", "if", "or", "and", "near", "district", "quality", "audience", "shown", "unseen", "late"};
    private static final String[] SIGNS = {";", "+", "-", "*", "==", "!=", "<", "<=", "(", ")"};
    private static final String NAME = "y";
    private static final String INT = "1";
    private static final String NO_TOKEN = "?";
    private static final String TEXT_END = "";
    private static final String CLAUSES = "want bar beside refund end";
    private static final String UNITS = "1 district quality audience shown unseen late (";
    private static final String LITERALS = "near " + UNITS;
    private static final String COMPARISONS = "== != < <=";

    public static void main(String[] args) {
        textLength();
        textEnd();
        bytesWhereATextMayEnd();
        blanks();
        nameBytes();
        nameLength();
        quotedWords();
        intBytes();
        intLength();
        signs();
        longestTokens();
        grammarOfCampaigns();
        grammarOfClauses();
        grammarOfConditions();
        firstByPlace();
        roomForTokens();
        roomForCampaigns();
        roomForClauses();
        roomForBrackets();
        nameToldTwice();
        districtToldTwice();
        unknownName();
        wrongUntil();
        wrongWant();
        wrongRefund();
        wrongMark();
        wrongRival();
        numbersOfCampaignsAndClauses();
        faultChangesNothing();
        soundTextTakesThePlace();
        textBehindText();
        longTextBehindLongText();
        soundTextBehindABrokenOne();
        tapeIsEmptyThen();
        placeOfTheLatestRead();
        finish(TextBoundariesTest.class);
    }

    private static void textLength() {
        sentence("CONTRACTS are a text of at most 3,000 bytes");
        String text = HEAD + "want 1 in 0 worth 1;";
        String whole = text + " ".repeat(3000 - text.length() - 3) + "end";
        PasteHouse house = houseWith(whole);
        due("count(3) of a text of 3,000 bytes", house.count(3), 1);
        dueFault(whole.substring(0, 2999), 1, 2997);
        dueFault(text + " ".repeat(3000 - text.length()), 1, 3000);
        dueFault(" ".repeat(2999) + "?", 1, 2999);
        dueFault("a".repeat(3000), 1, 0);
        dueFault("7".repeat(3000), 1, 0);
    }

    private static void textEnd() {
        sentence("the first by its place (a byte; the text's end: its length)");
        dueSound("");
        dueSound(" ");
        dueFault(1, "campaign^");
        dueFault(1, "campaign ^");
        dueFault(1, "campaign \t\r\n^");
        dueFault(1, HEAD + "^");
        dueFault(1, HEAD + "bar quality<^");
        dueFault(1, HEAD + "bar ((1)^");
        dueSound(HEAD + "end");
        dueSound("\n " + HEAD + "end\r\t ");
    }

    private static boolean isBlank(int b) {
        return b == 9 || b == 10 || b == 13 || b == 32;
    }

    private static boolean isLetter(int b) {
        return b >= 97 && b <= 122;
    }

    private static boolean isDigit(int b) {
        return b >= 48 && b <= 57;
    }

    private static void bytesWhereATextMayEnd() {
        sentence("1 SYNTAX: a TOKEN, or what is none, with which no text goes on");
        for (int b = 0; b < 256; b++) {
            String alone = String.valueOf((char) b);
            String behind = HEAD + "end" + (char) b;
            if (isBlank(b)) {
                dueSound(alone);
                dueSound(behind);
            } else {
                dueFault(alone, 1, 0);
                // A letter makes another word of end.
                dueFault(behind, 1, isLetter(b) ? HEAD.length() : HEAD.length() + 3);
            }
        }
    }

    private static void blanks() {
        sentence("TOKENS, the longest that can be, with blanks (9, 10, 13, 32) between or not");
        for (int b = 0; b < 256; b++) {
            String text = "campaign" + (char) b + "x from 0 until 1;end";
            if (isBlank(b)) {
                dueSound(text);
            } else {
                // A letter makes one long word of all; all else stands where a name is due.
                dueFault(text, 1, isLetter(b) ? 0 : 8);
            }
        }
        dueSound("campaign x from0until26;want9in5worth9999;bar(1)<=(2)or near7and near0;refund100if late<1;end");
        dueSound("campaign x from 0 until 26 ; want 9 in 5 worth 9999 ; bar ( 1 ) <= ( 2 ) ; end");
        dueSound("campaign\nx\tfrom\r0  until \n\n 26;end");
    }

    private static void nameBytes() {
        sentence("NAMES (letters a .. z");
        for (int b = 0; b < 256; b++) {
            String text = "campaign " + (char) b + " from 0 until 1;end";
            if (isLetter(b)) {
                dueSound(text);
            } else {
                dueFault(text, 1, isBlank(b) ? 11 : 9);
            }
        }
        dueFault(1, "campaign ^Abc from 0 until 1;end");
        dueFault(1, "campaign ab^C from 0 until 1;end");
        dueFault(1, "campaign a^7 from 0 until 1;end");
        dueFault(1, "campaign ab^_c from 0 until 1;end");
    }

    private static void nameLength() {
        sentence("NAMES (.. 8 at most ..). A longer one, all else, is no TOKEN");
        dueSound("campaign a from 0 until 1;end");
        dueSound("campaign abcdefg from 0 until 1;end");
        dueSound("campaign abcdefgh from 0 until 1;end");
        dueFault(1, "campaign ^abcdefghi from 0 until 1;end");
        dueFault(1, "campaign ^abcdefghijklmnopqr from 0 until 1;end");
        dueFault(1, HEAD + "beside ^abcdefghi;end");
        dueFault(1, HEAD + "^wantwantw 1 in 0 worth 1;end");
        dueFault(1, "^campaigns x from 0 until 1;end");
    }

    private static void quotedWords() {
        sentence("NAMES (.. none of the words in quotes)");
        for (String word : WORDS) {
            dueFault(1, "campaign ^" + word + " from 0 until 1;end");
            dueFault(1, HEAD + "beside ^" + word + ";end");
            dueSound("campaign " + word.substring(0, word.length() - 1) + " from 0 until 1;end");
            dueSound("campaign " + word.substring(1) + "z from 0 until 1;end");
            if (word.length() < 8) {
                dueSound("campaign " + word + "z from 0 until 1;end");
            }
        }
        // The grammar's own words without quotes are names like all others.
        dueSound("campaign name from 0 until 1;end campaign int from 0 until 1;end campaign cond from 0 until 1;end");
        dueSound("campaign text from 0 until 1;end campaign clause from 0 until 1;end campaign unit from 0 until 1;end");
    }

    private static void intBytes() {
        sentence("INTS (1 to 4 digits)");
        for (int b = 0; b < 256; b++) {
            String text = "campaign x from " + (char) b + " until 26;end";
            if (isDigit(b)) {
                dueSound(text);
            } else {
                dueFault(text, 1, isBlank(b) ? 18 : 16);
            }
        }
    }

    private static void intLength() {
        sentence("INTS (1 to 4 digits). A longer one, all else, is no TOKEN");
        dueSound(HEAD + "want 1 in 0 worth 0;end");
        dueSound(HEAD + "want 1 in 0 worth 9999;end");
        dueSound(HEAD + "want 0001 in 0000 worth 0000;end");
        dueFault(1, HEAD + "want 1 in 0 worth ^10000;end");
        dueFault(1, HEAD + "want 1 in 0 worth ^00000;end");
        dueFault(1, HEAD + "want 1 in 0 worth ^000000000001;end");
        dueFault(1, HEAD + "bar ^12345<1;end");
        dueFault(1, HEAD + "bar 1234 ^5<1;end");
        PasteHouse house = houseWith(HEAD + "want 1 in 0 worth 0012;end");
        addBoards(house, 0);
        due("give(0, 0): an INT with noughts ahead", house.give(0, 0), 12);
    }

    private static void signs() {
        sentence("SIGNS ; + - * == != < <= ( )");
        dueSound(HEAD + "bar (1+2-3)*4==5;bar 1!=2;bar 1<2;bar 1<=2;end");
        dueFault(1, HEAD + "bar 1^=1;end");
        dueFault(1, HEAD + "bar 1^!1;end");
        dueFault(1, HEAD + "bar 1^>1;end");
        dueFault(1, HEAD + "bar 1^>=1;end");
        dueFault(1, HEAD + "bar 1^/1;end");
        dueFault(1, HEAD + "bar 1^,1;end");
        dueFault(1, HEAD + "bar 1^:1;end");
        dueFault(1, HEAD + "bar 1^&&1;end");
        dueFault(1, HEAD + "bar ^[1]<1;end");
        dueFault(1, HEAD + "bar ^\"1\"<1;end");
        dueFault(1, HEAD + "bar 1^=");
        dueFault(1, HEAD + "bar 1^!");
        dueFault(1, HEAD + "bar 1<^");
        dueFault(1, HEAD + "bar 1<=^");
    }

    private static void longestTokens() {
        sentence("TOKENS, the longest that can be");
        dueSound(HEAD + "bar 1<=1;end");
        dueFault(1, HEAD + "bar 1<=^=1;end");
        dueFault(1, HEAD + "bar 1==^=1;end");
        dueFault(1, HEAD + "bar 1==^==1;end");
        dueFault(1, HEAD + "bar 1!=^=1;end");
        dueFault(1, HEAD + "bar 1< ^=1;end");
        dueFault(1, HEAD + "bar 1^= =1;end");
        dueFault(1, HEAD + "bar 1^! =1;end");
        dueFault(1, HEAD + "bar 1<^<1;end");
        dueFault(1, HEAD + "bar 1^=<1;end");
        dueFault(1, "^campaignx from 0 until 1;end");
        // A name that swallows the word behind it is a name still: the fault is at what follows.
        dueFault(1, "campaign xfrom ^0 until 1;end");
        dueFault(1, HEAD + "^barnear 1;end");
        dueFault(1, HEAD + "bar near 1 ^andnear 1;end");
        dueFault(1, HEAD + "^endcampaign y from 0 until 1;end");
    }

    /** Every token is tried behind a beginning: the text goes on with those that are told alone. */
    private static void dueGoesOnWith(String beginning, String tokens) {
        List<String> all = new ArrayList<>(List.of(WORDS));
        all.addAll(List.of(SIGNS));
        all.addAll(List.of(NAME, INT, NO_TOKEN));
        List<String> due = List.of(tokens.split(" "));
        for (String token : all) {
            String text = beginning + " " + token;
            if (due.contains(token)) {
                dueGoesBeyond(text);
            } else {
                dueFault(text, 1, beginning.length() + 1);
            }
        }
    }

    private static void dueGoesBeyond(String text) {
        PasteHouse house = new PasteHouse();
        feed(house, text);
        int fault = house.read();
        boolean whole = text.endsWith(" end");
        due("read() of " + text, fault, whole ? 0 : 1);
        due("place() of " + text, house.place(), whole ? NONE : text.length());
    }

    private static void grammarOfCampaigns() {
        sentence("text: {'campaign' NAME 'from' INT 'until' INT ';' {CLAUSE} 'end'}");
        dueSound(TEXT_END);
        dueGoesOnWith("", "campaign");
        dueGoesOnWith("campaign", NAME);
        dueGoesOnWith("campaign x", "from");
        dueGoesOnWith("campaign x from", INT);
        dueGoesOnWith("campaign x from 0", "until");
        dueGoesOnWith("campaign x from 0 until", INT);
        dueGoesOnWith("campaign x from 0 until 1", ";");
        dueGoesOnWith("campaign x from 0 until 1;", CLAUSES);
        dueSound(HEAD + "end");
        dueGoesOnWith(HEAD + "end", "campaign");
        dueGoesOnWith(HEAD + "end campaign z from 0 until 1;", CLAUSES);
    }

    private static void grammarOfClauses() {
        sentence("CLAUSE: 'want' INT 'in' INT 'worth' INT ';' | 'bar' COND ';' | 'beside' NAME ';' | 'refund' INT 'if' COND ';'");
        dueGoesOnWith(HEAD + "want", INT);
        dueGoesOnWith(HEAD + "want 1", "in");
        dueGoesOnWith(HEAD + "want 1 in", INT);
        dueGoesOnWith(HEAD + "want 1 in 1", "worth");
        dueGoesOnWith(HEAD + "want 1 in 1 worth", INT);
        dueGoesOnWith(HEAD + "want 1 in 1 worth 1", ";");
        dueGoesOnWith(HEAD + "want 1 in 1 worth 1;", CLAUSES);
        dueGoesOnWith(HEAD + "bar", LITERALS);
        dueGoesOnWith(HEAD + "bar near 1;", CLAUSES);
        dueGoesOnWith(HEAD + "bar 1==1;", CLAUSES);
        dueGoesOnWith(HEAD + "beside", NAME);
        dueGoesOnWith(HEAD + "beside z", ";");
        dueGoesOnWith(HEAD + "end campaign z from 0 until 1; beside x;", CLAUSES);
        dueGoesOnWith(HEAD + "refund", INT);
        dueGoesOnWith(HEAD + "refund 1", "if");
        dueGoesOnWith(HEAD + "refund 1 if", LITERALS);
        dueGoesOnWith(HEAD + "refund 1 if near 1;", CLAUSES);
    }

    private static void grammarOfConditions() {
        sentence("COND: ALL {'or' ALL}. ALL: LIT {'and' LIT}. LIT: 'near' INT | E (..) E. E, PART, UNIT, VAR");
        String sums = "+ - *";
        String bar = HEAD + "bar ";
        dueGoesOnWith(bar + "near", INT);
        dueGoesOnWith(bar + "near 1", "and or ;");
        dueGoesOnWith(bar + "near 1 and", LITERALS);
        dueGoesOnWith(bar + "near 1 or", LITERALS);
        dueGoesOnWith(bar + "near 1 and near", INT);
        dueGoesOnWith(bar + "near 1 and 2", sums + " " + COMPARISONS);
        dueGoesOnWith(bar + "2==2 or 2", sums + " " + COMPARISONS);
        dueGoesOnWith(bar + "2==2 and near 2", "and or ;");
        for (String unit : UNITS.substring(0, UNITS.length() - 2).split(" ")) {
            dueGoesOnWith(bar + unit, sums + " " + COMPARISONS);
        }
        for (String sign : (sums + " " + COMPARISONS).split(" ")) {
            dueGoesOnWith(bar + "2 " + sign, UNITS);
        }
        dueGoesOnWith(bar + "(", UNITS);
        dueGoesOnWith(bar + "(2", sums + " )");
        dueGoesOnWith(bar + "(2+", UNITS);
        dueGoesOnWith(bar + "(2)", sums + " " + COMPARISONS);
        dueGoesOnWith(bar + "((2)", sums + " )");
        dueGoesOnWith(bar + "2==2", sums + " and or ;");
        dueGoesOnWith(bar + "2==2*", UNITS);
        dueGoesOnWith(bar + "2==(2", sums + " )");
        dueGoesOnWith(bar + "2==(2)", sums + " and or ;");
        dueGoesOnWith(HEAD + "refund 1 if 2<late", sums + " and or ;");
    }

    private static void firstByPlace() {
        sentence("FAULTS, the first by its place .. If there is none, likewise");
        dueFault(1, "campaign x ^until 1;end campaign ? from 0 until 1;end");
        dueFault(1, "campaign x from 5 until 1;want 0 in 9 worth 1;beside q;end ^end");
        dueFault(2, "campaign x from 5 until 1;want 0 in 9 worth 1;bar ((((((^(1)))))))<2;end");
        dueFault(2, HEAD + "bar ((((((^(1 ?");
        dueFault(1, HEAD + "bar 1 ^? ((((((((1");
        dueFault(5, HEAD + "bar near ^8;beside q;want 1 in 0 worth 1;want 1 in 0 worth 1;end");
        dueFault(4, HEAD + "beside ^q;bar near 8;want 1 in 0 worth 1;want 1 in 0 worth 1;end");
        dueFault(3, HEAD + "want 1 in 0 worth 1;want 1 in ^0 worth 1;bar near 8;beside q;end");
        dueFault(3, HEAD + "end campaign ^x from 5 until 1;beside x;end");
        dueFault(5, HEAD + "beside ^x;end campaign x from 0 until 1;end");
        dueFault(5, "campaign x from 5 until ^5;beside q;end");
        dueFault(5, HEAD + "want ^0 in 6 worth 1;end");
        dueFault(5, HEAD + "want 1 in 0 worth 1;want ^0 in 0 worth 1;end");
        dueFault(5, HEAD + "refund ^101 if near 8;end");
        sentence("FAULTS .. of one place the least");
        String full = ofTokens(600);
        dueFault(1, full + " ^end");
        dueFault(1, full + " ^want");
        dueFault(1, full + "^?");
        dueFault(2, full + " ^campaign");
    }

    /** A sound text of so many tokens, 14 or more: a bar of ones, with a mark ahead if they are odd. */
    private static String ofTokens(int tokens) {
        // Seven tokens are the campaign's head; bar, one, a sign, nine, a semicolon and end are six more.
        int sums = tokens - 7 - 6;
        if (sums % 2 == 0) {
            return "campaign x from 0 until 1;bar 1" + "+1".repeat(sums / 2) + "<9;end";
        }
        return "campaign x from 0 until 1;bar near 1 and 1" + "+1".repeat((sums - 3) / 2) + "<9;end";
    }

    private static void roomForTokens() {
        sentence("2 ROOM: a 601st TOKEN");
        dueSound(ofTokens(599));
        dueSound(ofTokens(600));
        dueSound(ofTokens(600) + " \n\t\r ");
        String odd = ofTokens(601);
        dueFault(odd, 2, odd.length() - 3);
        String even = ofTokens(602);
        dueFault(even, 2, even.length() - 4);
        dueFault(odd.substring(0, odd.length() - 3), 1, odd.length() - 3);
        dueFault(odd.substring(0, odd.length() - 3) + "  ", 1, odd.length() - 1);
        dueFault(odd.substring(0, odd.length() - 3) + "?", 1, odd.length() - 3);
        dueFault(2, ofTokens(600) + " ^campaign y from 0 until 1;end");
        dueFault(2, ofTokens(600) + " ^campaign?");
        // The 600th is at fault by its form: no room is asked for behind it.
        String last = ofTokens(600);
        dueFault(last.substring(0, last.length() - 3) + "if if", 1, last.length() - 3);
    }

    private static String campaigns(int from, int until) {
        StringBuilder text = new StringBuilder();
        for (int i = from; i < until; i++) {
            text.append("campaign c").append((char) ('a' + i)).append(" from 0 until 1;end ");
        }
        return text.toString();
    }

    private static void roomForCampaigns() {
        sentence("2 ROOM: .. a 9th campaign .. (at that word)");
        due("count(2) of 7 campaigns", houseWith(campaigns(0, 7)).count(2), 7);
        due("count(2) of 8 campaigns", houseWith(campaigns(0, 8)).count(2), 8);
        dueFault(2, campaigns(0, 8) + "^campaign ci from 0 until 1;end");
        dueFault(2, campaigns(0, 8) + "^campaign");
        dueFault(2, campaigns(0, 8) + "^campaign ?");
        dueFault(2, campaigns(0, 8) + "^" + campaigns(8, 10));
        dueFault(1, campaigns(0, 8) + "^end");
        // The ninth of them is one too many, though its name is told already.
        dueFault(2, campaigns(0, 8) + "^" + campaigns(0, 1));
        dueFault(3, campaigns(0, 7) + "campaign ^ca from 0 until 1;end");
    }

    private static void roomForClauses() {
        sentence("2 ROOM: .. a 41st CLAUSE (at that word)");
        String bars = "bar near 1;".repeat(39);
        String[] clauses = {"want 1 in 0 worth 1;", "bar near 1;", "beside y;", "refund 1 if near 1;"};
        String other = " campaign y from 0 until 1;end";
        for (String clause : clauses) {
            due("count(3) of 39 clauses and " + clause, houseWith(HEAD + bars + clause + "end" + other).count(3), 40);
            dueFault(2, HEAD + bars + "bar near 1;^" + clause + "end" + other);
            dueFault(2, HEAD + bars + "bar near 1;^" + clause.substring(0, clause.indexOf(' ')));
            // Clauses of all campaigns are counted together.
            dueFault(2, HEAD + bars + "end campaign y from 0 until 1;bar near 1;^" + clause + "end");
        }
        due("count(3) of 39 and 1", houseWith(HEAD + bars + "end campaign y from 0 until 1;bar near 1;end").count(3), 40);
        dueSound(HEAD + bars + "bar near 1;end campaign y from 0 until 1;end");
        dueFault(1, HEAD + bars + "bar near 1;^near");
    }

    private static void roomForBrackets() {
        sentence("2 ROOM: .. a 7th ( within one another (at it)");
        String bar = HEAD + "bar ";
        String six = "((((((1))))))";
        dueSound(bar + "(((((1)))))<1;end");
        dueSound(bar + six + "<1;end");
        dueFault(2, bar + "((((((^(1)))))))<1;end");
        dueFault(2, bar + "((((((^((1))))))))<1;end");
        dueFault(2, bar + "1<((((((^(1)))))));end");
        dueFault(2, HEAD + "refund 1 if 1<((((((^(1)))))));end");
        dueFault(2, bar + "((((((1+^(1)))))))<1;end");
        dueFault(2, bar + "((((((1*^(");
        dueFault(2, bar + "1<1 and ((((((^(1)))))))<1;end");
        dueSound(bar + six + "*" + six + "+" + six + "<" + six + " and " + six + "<" + six + ";bar " + six + "==1;end");
        dueSound(bar + "((((((1)+(1))*(1)))))<1;end");
        dueSound(bar + "(((((  (1)+(1)*(1)-(1)  )))))<1;end");
        dueFault(2, bar + "(((((  (1)+(1)*(^(1))-(1)  )))))<1;end");
        dueFault(1, bar + "((((((1))))))^)<1;end");
        dueFault(1, bar + "((((((^)");
    }

    private static void nameToldTwice() {
        sentence("3 TWICE: a CAMPAIGN's NAME told already");
        String end = " from 0 until 1;end ";
        dueFault(3, "campaign a" + end + "campaign ^a" + end);
        dueFault(3, "campaign a" + end + "campaign b" + end + "campaign ^a" + end + "campaign b" + end);
        dueFault(3, "campaign a" + end + "campaign b" + end + "campaign ^b" + end);
        dueFault(3, campaigns(0, 7) + "campaign ^cg" + end);
        dueFault(3, "campaign zzzzzzzz" + end + "campaign ^zzzzzzzz" + end);
        dueSound("campaign a" + end + "campaign aa" + end + "campaign aaa" + end + "campaign aaaaaaaa" + end
                + "campaign aaaaaaa" + end + "campaign ab" + end + "campaign ba" + end + "campaign z" + end);
        dueSound("campaign za" + end + "campaign a" + end + "campaign az" + end + "campaign zz" + end + "campaign z" + end
                + "campaign b" + end + "campaign zza" + end + "campaign aza" + end);
        dueSound("campaign abcdefgh" + end + "campaign abcdefgi" + end + "campaign bbcdefgh" + end + "campaign bcdefgh" + end);
        PasteHouse house = houseWith("campaign a" + end);
        feed(house, "campaign a" + end);
        due("read(): a name of the text ahead is told once in this one", house.read(), 0);
    }

    private static void districtToldTwice() {
        sentence("3 TWICE: .. a want's DISTRICT that another want of its CAMPAIGN has ahead");
        dueFault(3, HEAD + "want 1 in 0 worth 1;want 1 in ^0 worth 1;end");
        dueFault(3, HEAD + "want 1 in 5 worth 1;bar near 1;want 2 in 4 worth 3;want 1 in ^5 worth 1;end");
        dueFault(3, HEAD + "want 1 in 5 worth 1;want 1 in ^0005 worth 1;want 1 in 5 worth 1;end");
        dueSound(HEAD + "want 1 in 0 worth 1;want 1 in 1 worth 1;want 1 in 2 worth 1;want 1 in 3 worth 1;"
                + "want 1 in 4 worth 1;want 1 in 5 worth 1;end");
        dueSound(HEAD + "want 1 in 0 worth 1;end campaign y from 0 until 1;want 1 in 0 worth 1;end");
        dueFault(3, HEAD + "want 1 in 0 worth 1;end campaign y from 0 until 1;want 1 in 0 worth 1;want 1 in ^0 worth 2;end");
        // A refund's number is no district.
        dueSound(HEAD + "refund 0 if near 1;want 1 in 0 worth 1;refund 0 if near 1;end");
        // The district above 5 is told first, and is at fault there.
        dueFault(5, HEAD + "want 1 in ^6 worth 1;want 1 in 6 worth 1;end");
    }

    private static void unknownName() {
        sentence("4 NAME: at beside's: no CAMPAIGN of the text");
        String other = "campaign yy from 0 until 1;";
        dueFault(4, HEAD + "beside ^yy;end");
        dueSound(HEAD + "beside yy;end " + other + "end");
        dueSound(other + "end " + HEAD + "beside yy;end");
        dueFault(4, HEAD + "beside ^y;end " + other + "end");
        dueFault(4, HEAD + "beside ^yyy;end " + other + "end");
        dueFault(4, HEAD + "beside yy;beside ^zz;beside qq;end " + other + "end");
        dueSound(HEAD + "beside yy;beside yy;end " + other + "beside x;end");
        PasteHouse house = houseWith(other + "end");
        feed(house, HEAD + "beside yy;end");
        due("read(): a campaign of the text ahead is none of this one", house.read(), 4);
        due("place()", house.place(), HEAD.length() + 7);
    }

    private static void wrongUntil() {
        sentence("5 WRONG: until, if it is not above from or is above 26");
        dueSound("campaign x from 0 until 1;end");
        dueFault(5, "campaign x from 0 until ^0;end");
        dueFault(5, "campaign x from 1 until ^0;end");
        dueFault(5, "campaign x from 1 until ^1;end");
        dueSound("campaign x from 1 until 2;end");
        dueSound("campaign x from 0 until 25;end");
        dueSound("campaign x from 0 until 26;end");
        dueFault(5, "campaign x from 0 until ^27;end");
        dueFault(5, "campaign x from 0 until ^9999;end");
        dueSound("campaign x from 25 until 26;end");
        dueFault(5, "campaign x from 25 until ^25;end");
        dueFault(5, "campaign x from 26 until ^26;end");
        dueFault(5, "campaign x from 26 until ^27;end");
        dueFault(5, "campaign x from 9999 until ^26;end");
        dueFault(5, HEAD + "end campaign y from 3 until ^3;end");
        // It is its own campaign's from that counts.
        dueSound("campaign x from 20 until 26;end campaign y from 0 until 1;end");
    }

    private static void wrongWant() {
        sentence("5 WRONG: .. want's first INT 0 or above 9, its DISTRICT above 5");
        dueFault(5, HEAD + "want ^0 in 0 worth 0;end");
        dueFault(5, HEAD + "want ^0000 in 0 worth 0;end");
        dueSound(HEAD + "want 1 in 0 worth 0;end");
        dueSound(HEAD + "want 9 in 0 worth 0;end");
        dueFault(5, HEAD + "want ^10 in 0 worth 0;end");
        dueFault(5, HEAD + "want ^9999 in 0 worth 0;end");
        dueSound(HEAD + "want 1 in 5 worth 0;end");
        dueFault(5, HEAD + "want 1 in ^6 worth 0;end");
        dueFault(5, HEAD + "want 1 in ^9999 worth 0;end");
        dueSound(HEAD + "want 1 in 0 worth 9999;end");
    }

    private static void wrongRefund() {
        sentence("5 WRONG: .. a refund's INT above 100");
        dueSound(HEAD + "refund 0 if near 0;end");
        dueSound(HEAD + "refund 99 if near 0;end");
        dueSound(HEAD + "refund 100 if near 0;end");
        dueFault(5, HEAD + "refund ^101 if near 0;end");
        dueFault(5, HEAD + "refund ^9999 if near 0;end");
    }

    private static void wrongMark() {
        sentence("5 WRONG: .. near's above 7");
        dueSound(HEAD + "bar near 0;bar near 7;refund 1 if near 7;end");
        dueFault(5, HEAD + "bar near ^8;end");
        dueFault(5, HEAD + "bar near ^9999;end");
        dueFault(5, HEAD + "bar near 7 or 1<2 and near ^8;end");
        dueFault(5, HEAD + "refund 1 if near ^8;end");
        // Another INT of a condition may be what it likes.
        dueSound(HEAD + "bar 9999<8 and near 7;end");
    }

    private static void wrongRival() {
        sentence("5 WRONG: .. beside's NAME of its own CAMPAIGN");
        dueFault(5, HEAD + "beside ^x;end");
        dueFault(5, HEAD + "end campaign y from 0 until 1;beside x;beside ^y;end");
        dueSound(HEAD + "beside y;end campaign y from 0 until 1;beside x;end");
    }

    private static void numbersOfCampaignsAndClauses() {
        sentence("CAMPAIGNS are numbered from 0 on, CLAUSES of all of them likewise");
        StringBuilder text = new StringBuilder();
        for (int c = 0; c < 8; c++) {
            text.append("campaign n").append((char) ('a' + c)).append(" from ").append(3 * c).append(" until ")
                    .append(3 * c + 1).append(";bar near 1;bar near 2;bar near 3;bar near 4;want 1 in 0 worth 1;end ");
        }
        PasteHouse house = houseWith(text.toString());
        addBoards(house, 0);
        for (int c = 0; c < 8; c++) {
            due("give(" + 3 * c + ", 0)", house.give(3 * c, 0), 1);
            due("its campaign", house.given(0, 3 * c, 1), c);
            due("its clause", house.given(0, 3 * c, 0), 5 * c + 4);
        }
        due("count(2)", house.count(2), 8);
        due("count(3)", house.count(3), 40);
    }

    private static void faultChangesNothing() {
        sentence("A text with a FAULT changes nothing");
        String[] faulty = {"campaign y", "campaign y from 0 until 1;bar (((((((1", HEAD + "end " + HEAD + "end",
            HEAD + "beside y;end", "campaign y from 5 until 5;want 1 in 0 worth 9;end"};
        for (int fault = 1; fault <= 5; fault++) {
            PasteHouse house = houseWith("campaign a from 0 until 26;want 1 in 0 worth 7;bar near 3;refund 50 if late==14;beside b;"
                    + "end campaign b from 0 until 26;want 1 in 0 worth 3;end");
            house.board(0, 5, 100, 0, false);
            house.board(0, 5, 100, 8, true);
            house.fact(1, 0, 25, 0);
            house.pace(0, 1);
            due("give(25, 1)", house.give(25, 1), 7);
            feed(house, faulty[fault - 1]);
            due("read()", house.read(), fault);
            due("count(0)", house.count(0), 2);
            due("count(1)", house.count(1), 1);
            due("count(2)", house.count(2), 2);
            due("count(3)", house.count(3), 5);
            due("count(4)", house.count(4), 1);
            dueGiven(house, 25, 0, NONE);
            due("given(0, 25, 2)", house.given(0, 25, 2), 7);
            due("refund(0, 25, 1)", house.refund(0, 25, 1), 3);
            due("reach(0, 25, 1)", house.reach(0, 25, 1), 100);
            due("bar(1, 0)", house.bar(1, 0), 1);
            due("lacks(1, 25, 0)", house.lacks(1, 25, 0), 1);
            due("mend(25, 1)", house.mend(25, 1), 0);
            due("give(0, 0): beside still counts", house.give(0, 0), 7);
        }
    }

    private static void soundTextTakesThePlace() {
        sentence("else it is in place of the one ahead, and nothing is GIVEN in any FORTNIGHT");
        String same = "campaign a from 0 until 26;want 1 in 0 worth 7;end";
        String[] texts = {same, "", " ", "campaign b from 25 until 26;end"};
        for (String text : texts) {
            PasteHouse house = houseWith(same);
            addBoards(house, 0);
            for (int fortnight = 0; fortnight < 26; fortnight++) {
                due("give(" + fortnight + ", 0)", house.give(fortnight, 0), 7);
            }
            due("count(4)", house.count(4), 26);
            due("state(0, 25, 0, 2): it is given, and late", house.state(0, 25, 0, 2), 14);
            dueSound(house, text);
            due("count(4)", house.count(4), 0);
            due("state(0, 25, 0, 2): it is not given", house.state(0, 25, 0, 2), 0);
            for (int fortnight = 0; fortnight < 26; fortnight++) {
                due("given(0, " + fortnight + ", 0)", house.given(0, fortnight, 0), NONE);
                due("given(0, " + fortnight + ", 2)", house.given(0, fortnight, 2), NONE);
                due("mend(" + fortnight + ", 0)", house.mend(fortnight, 0), NONE);
                due("refund(0, " + fortnight + ", 0)", house.refund(0, fortnight, 0), NONE);
            }
            due("count(2)", house.count(2), text.isBlank() ? 0 : 1);
            due("count(3)", house.count(3), text.equals(same) ? 1 : 0);
            due("give(25, 0)", house.give(25, 0), text.equals(same) ? 7 : 0);
        }
        PasteHouse house = houseWith("campaign a from 0 until 1;want 1 in 0 worth 1;bar near 0;beside b;end "
                + "campaign b from 0 until 1;want 1 in 0 worth 1;refund 100 if 1==1;end");
        house.board(0, 5, 100, 1, false);
        house.board(0, 5, 100, 1, true);
        due("bar(0, 0)", house.bar(0, 0), 1);
        dueSound(house, "campaign b from 0 until 1;want 1 in 0 worth 4;end campaign a from 0 until 1;want 1 in 0 worth 5;end");
        due("no bar is left: may(0, 0)", house.may(0, 0), 1);
        due("no beside is left: give(0, 0)", house.give(0, 0), 9);
        due("no refund is left: refund(0, 0, 0)", house.refund(0, 0, 0), 0);
    }

    /** Each text counts by itself, however many were read ahead of it, and whatever they said. */
    private static void textBehindText() {
        sentence("else it is in place of the one ahead");
        PasteHouse house = new PasteHouse();
        house.board(0, 5, 100, 1, false);
        house.board(0, 5, 100, 1, true);
        String rivals = "campaign a from 0 until 26;bar near 7;want 1 in 0 worth 1;beside b;end campaign b from 0 until 26;"
                + "want 1 in 0 worth 1;end";
        String friends = "campaign a from 0 until 26;want 1 in 0 worth 1;end campaign b from 0 until 26;want 1 in 0 worth 1;bar 2<1;end";
        String barred = "campaign a from 0 until 26;bar 1==2;bar near 0 and (1+1)*2==4;want 1 in 0 worth 5;end";
        String crowded = "campaign z from 0 until 26;want 9 in 0 worth 3;" + "bar 1==2;".repeat(39) + "end";
        String[] texts = {rivals, friends, barred, crowded, rivals, barred, friends, friends, crowded, crowded, rivals};
        int[] campaigns = {2, 2, 1, 1, 2, 1, 2, 2, 1, 1, 2};
        int[] clauses = {4, 3, 3, 40, 4, 3, 3, 3, 40, 40, 4};
        int[] worths = {1, 2, 0, 6, 1, 0, 2, 2, 6, 6, 1};
        for (int i = 0; i < texts.length; i++) {
            dueSound(house, texts[i]);
            due("count(2) of text " + i, house.count(2), campaigns[i]);
            due("count(3) of text " + i, house.count(3), clauses[i]);
            due("give(0, 0) by text " + i, house.give(0, 0), worths[i]);
            due("bar(0, 0) by text " + i, house.bar(0, 0), texts[i].equals(barred) ? 1 : NONE);
            due("bar(0, 1) by text " + i, house.bar(0, 1), NONE);
        }
    }

    /** Long conditions take their room anew each time. */
    private static void longTextBehindLongText() {
        sentence("else it is in place of the one ahead");
        PasteHouse house = new PasteHouse();
        addBoards(house, 0);
        for (int i = 0; i < 8; i++) {
            dueSound(house, HEAD + "bar 1" + "+1".repeat(280) + "==" + (281 + i % 2) + ";bar 2*3==6;end");
            due("bar(0, 0) by text " + i, house.bar(0, 0), i % 2);
        }
    }

    /** A text that breaks off leaves nothing open for the next one. */
    private static void soundTextBehindABrokenOne() {
        sentence("A text with a FAULT changes nothing; the tape, which is empty then, is read");
        String[] broken = {"bar (((((1", "bar ((((((1+2*(", "bar 1+2*(3", "bar 1<", "bar 1<2", "bar 1<2 and 3", "bar near 1 or near 2 and 1+1*(",
            "refund 5 if", "beside q;bar (1", "want 1 in 5 worth 1;want 1 in", "bar near 9;", "bar near 9;want 0 in 7 worth 1;end"};
        for (String text : broken) {
            PasteHouse house = new PasteHouse();
            addBoards(house, 5);
            for (int i = 0; i < 8; i++) {
                feed(house, HEAD + text);
                due("read() of " + text, house.read() > 0, true);
            }
            dueSound(house, HEAD + "bar 1+2*3==8 and near 1;bar 1+2*3==7;end");
            due("bar(0, 0)", house.bar(0, 0), 1);
            for (int i = 0; i < 8; i++) {
                feed(house, HEAD + text);
                due("read() of " + text, house.read() > 0, true);
                dueSound(house, HEAD + "want 1 in 5 worth 8;bar ((((((1))))))+1<2 or near 1 and 2*(1+2)==6;end");
                due("place()", house.place(), NONE);
                due("may(0, 0)", house.may(0, 0), 1);
                due("give(0, 0)", house.give(0, 0), 8);
                dueSound(house, HEAD + "bar 1+2*3==7 and ((((((2))))))*3<=6;end");
                due("bar(0, 0)", house.bar(0, 0), 0);
            }
        }
    }

    private static void tapeIsEmptyThen() {
        sentence("Promise 4: The tape, which is empty then, is read: 0, or the number of its FAULT");
        PasteHouse house = new PasteHouse();
        due("read() of nothing", house.read(), 0);
        feed(house, "campaign x");
        due("count(5)", house.count(5), 10);
        due("read()", house.read(), 1);
        due("count(5) behind a fault", house.count(5), 0);
        due("back(1) behind a fault", house.back(1), NONE);
        due("read() again: nothing of it is left", house.read(), 0);
        feed(house, HEAD + "end");
        due("read()", house.read(), 0);
        due("count(5) behind a sound text", house.count(5), 0);
        due("count(2)", house.count(2), 1);
        due("read() again: an empty text is in place of it", house.read(), 0);
        due("count(2)", house.count(2), 0);
        feed(house, " ".repeat(3000));
        due("count(5) of a full tape", house.count(5), 3000);
        due("read()", house.read(), 0);
        due("count(5)", house.count(5), 0);
    }

    private static void placeOfTheLatestRead() {
        sentence("Promise 5: The byte of the latest read()'s FAULT; NONE without");
        PasteHouse house = new PasteHouse();
        due("place() of a new object", house.place(), NONE);
        house.feed(0, 0, 0, 0, 0);
        due("place() ahead of a read()", house.place(), NONE);
        due("read()", house.read(), 1);
        due("place()", house.place(), 0);
        feed(house, "campaign");
        due("place() until it is read again", house.place(), 0);
        due("read()", house.read(), 1);
        due("place() at the text's end", house.place(), 8);
        due("place() asked again", house.place(), 8);
        house.back(99);
        house.board(9, 9, 9, 9, true);
        house.give(0, 0);
        due("place() behind other calls", house.place(), 8);
        feed(house, "campaign x from 0 until 0;end");
        due("read()", house.read(), 5);
        due("place()", house.place(), 24);
        due("read() of nothing", house.read(), 0);
        due("place() without a fault", house.place(), NONE);
    }
}
