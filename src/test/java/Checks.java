/** What the tests share: counting answers, feeding texts, houses that stand ready. */
abstract class Checks {
    static final int NONE = PasteHouse.NONE;
    static final int FULL = -2;
    static final int LEAST = Integer.MIN_VALUE;
    static final int MOST = Integer.MAX_VALUE;
    /** Marks the byte of a fault in a text; it goes before the text is fed. */
    static final String MARK = "^";

    private static int wrong = 0;
    private static int asked = 0;
    private static String sentence = "";

    /** The document's words that the answers asked from here on would break. */
    static void sentence(String words) {
        sentence = words;
    }

    static void due(String call, long got, long want) {
        asked++;
        if (got != want) {
            wrong++;
            System.out.println(sentence + (sentence.isEmpty() ? "" : ": ") + call + " answered " + got + ", due is " + want);
        }
    }

    static void due(String call, boolean got, boolean want) {
        due(call, got ? 1 : 0, want ? 1 : 0);
    }

    static void due(String call, String got, String want) {
        asked++;
        if (!got.equals(want)) {
            wrong++;
            System.out.println(sentence + ": " + call + " answered\n" + got + "\ndue is\n" + want);
        }
    }

    static void finish(Class<?> test) {
        System.out.println(test.getSimpleName() + ": " + asked + " answers asked, " + wrong + " wrong");
        if (wrong != 0 || asked == 0) {
            System.exit(1);
        }
    }

    /** Feeds a text: what fills up its last twenty bytes is taken back. */
    static void feed(PasteHouse house, String text) {
        int fed = (text.length() + 19) / 20 * 20;
        String padded = text + "?".repeat(fed - text.length());
        for (int i = 0; i < fed; i += 20) {
            house.feed(four(padded, i), four(padded, i + 4), four(padded, i + 8), four(padded, i + 12),
                    four(padded, i + 16));
        }
        house.back(fed - text.length());
    }

    static int four(String text, int at) {
        return text.charAt(at) << 24 | text.charAt(at + 1) << 16 | text.charAt(at + 2) << 8 | text.charAt(at + 3);
    }

    static PasteHouse houseWith(String text) {
        PasteHouse house = new PasteHouse();
        dueSound(house, text);
        return house;
    }

    static void dueSound(PasteHouse house, String text) {
        feed(house, text);
        due("read() of " + brief(text), house.read(), 0);
    }

    /** Boards that differ in nothing but their district, none beside another. */
    static void addBoards(PasteHouse house, int... districts) {
        for (int district : districts) {
            house.board(district, 5, 100, 0, false);
        }
    }

    static void dueSound(String text) {
        dueFault(text, 0, NONE);
    }

    /** A text whose fault is at its mark. */
    static void dueFault(int fault, String marked) {
        int place = marked.indexOf(MARK);
        dueFault(marked.substring(0, place) + marked.substring(place + 1), fault, place);
    }

    /** The fault of a text and its place. */
    static void dueFault(String text, int fault, int place) {
        PasteHouse house = new PasteHouse();
        feed(house, text);
        String shown = brief(text);
        due("read() of " + shown, house.read(), fault);
        due("place() behind read() of " + shown, house.place(), place);
        due("count(2) behind read() of " + shown, house.count(2) > 0 && fault != 0, false);
    }

    static String brief(String text) {
        return text.length() > 120 ? text.substring(0, 60) + " .. " + text.substring(text.length() - 40) : text;
    }

    static void dueGiven(PasteHouse house, int fortnight, int... clauses) {
        for (int board = 0; board < clauses.length; board++) {
            due("given(" + board + ", " + fortnight + ", 0)", house.given(board, fortnight, 0), clauses[board]);
        }
    }
}
