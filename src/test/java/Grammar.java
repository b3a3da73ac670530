import java.util.List;

/**
 * The grammar of the text told another way than the program reads it: for each place in a line, by all TOKENS
 * there are, which of them can stand there; for an e, all rows of up to five TOKENS.
 */
final class Grammar {
    private static final int NONE = FaceSenate.NONE;
    private static final String LINES = "district member look light tooth draw";
    private static final String UNITS = "1 face near beside bright stoic news step row column (";
    private static final String OPERATORS = "or and < > = + - * / %";
    private static final String TOKENS = UNITS + " " + OPERATORS + " ) ; not a hall by district mood member for at look "
            + "light tooth of draw";
    private static final List<String> SHORT = List.of("1", "face", "not", "(", ")", "<", "+", "*", "or", "and");
    private static final int LONGEST = 5;

    private final Book book;

    Grammar(Book book) {
        this.book = book;
    }

    void hold() {
        book.terms();
        lines();
        levels();
        rows();
    }

    /** Behind these TOKENS can come the ones of the list and no others. */
    private void next(String before, String can) {
        List<String> sound = List.of(can.split(" "));
        for (String token : TOKENS.split(" ")) {
            String text = before + " " + token;
            if (!sound.contains(token)) {
                book.fault(text, 2, before.length() + 1);
            } else if (token.equals(";")) {
                book.sound(text, text.contains("member") ? 1 : 0);
            } else {
                book.fault(text, 2, text.length());
            }
        }
    }

    private void lines() {
        book.says("line = hall N by N ; | district NAME mood N ; | member NAME for NAME face N [stoic N] [at N N] ; | look e ; "
                + "| light e ; | tooth N of N ; | draw N ;.");
        next("", "hall " + LINES);
        next("hall", "1");
        next("hall 1", "by");
        next("hall 1 by", "1");
        next("hall 1 by 1", ";");
        next("hall 1 by 1;", LINES);
        next("district", "a");
        next("district a", "mood");
        next("district a mood", "1");
        next("district a mood 1", ";");
        next("district a mood 1;", LINES);
        memberLine();
        for (String word : new String[] {"look", "light"}) {
            next(word, UNITS + " not");
            next(word + " 1", OPERATORS + " ;");
            next(word + " 1;", LINES.replace(word + " ", ""));
        }
        next("tooth", "1");
        next("tooth 1", "of");
        next("tooth 1 of", "1");
        next("tooth 1 of 1", ";");
        next("tooth 1 of 1;", LINES.replace("tooth ", ""));
        next("draw", "1");
        next("draw 1", ";");
        next("draw 1;", LINES.replace(" draw", ""));
    }

    private void memberLine() {
        String ahead = "district a mood 1;";
        next(ahead + "member", "a");
        next(ahead + "member a", "for");
        next(ahead + "member a for", "a");
        next(ahead + "member a for a", "face");
        next(ahead + "member a for a face", "1");
        next(ahead + "member a for a face 1", "stoic at ;");
        next(ahead + "member a for a face 1 stoic", "1");
        next(ahead + "member a for a face 1 stoic 1", "at ;");
        for (String stoic : new String[] {"", " stoic 1"}) {
            next(ahead + "member a for a face 1" + stoic + " at", "1");
            next(ahead + "member a for a face 1" + stoic + " at 1", "1");
            next(ahead + "member a for a face 1" + stoic + " at 1 1", ";");
            next(ahead + "member a for a face 1" + stoic + " at 1 1;", LINES);
        }
    }

    /** What comes of it tells how its parts were taken together. */
    private void worth(String formula, int want) {
        book.due("light " + formula, want, book.senate("light " + formula + ";").seat(0, 1));
    }

    private void levels() {
        book.says("e = both {or both}. both = one {and one}. one = not one | sum [(< | > | =) sum]. sum = term {(+ | -) term}. "
                + "term = unit {(* | / | %) unit}. unit = N | face | near | beside | bright | stoic | news | step | row | column "
                + "| ( e ).");
        worth("1 or 1 and 0", 1);
        worth("(1 or 1) and 0", 0);
        worth("0 and 0 or 1", 1);
        worth("0 and (0 or 1)", 0);
        worth("not 0 and 0", 0);
        worth("not (0 and 0)", 1);
        worth("not 1 or 1", 1);
        worth("not (1 or 1)", 0);
        worth("not 3 < 2", 1);
        worth("(not 3) < 2", 1);
        worth("not 2 = 0", 1);
        worth("(not 2) = 0", 1);
        worth("not 1 < 2", 0);
        worth("(not 1) < 2", 1);
        worth("not not 7", 1);
        worth("4 < 3 + 2", 1);
        worth("(4 < 3) + 2", 2);
        worth("1 + 2 > 2 + 0", 1);
        worth("6 - 1 = 5", 1);
        worth("6 - (1 = 5)", 6);
        worth("9 - 3 - 2", 4);
        worth("9 - (3 - 2)", 8);
        worth("9 - 3 + 2", 8);
        worth("2 + 3 * 2", 8);
        worth("(2 + 3) * 1", 5);
        worth("9 - 8 / 4", 7);
        worth("9 - 8 % 3", 7);
        worth("8 / 4 / 2", 1);
        worth("8 / (4 / 2)", 4);
        worth("8 / 4 * 2", 4);
        worth("9 % 5 * 2", 8);
        worth("9 % (5 * 2)", 9);
        worth("2 * 7 % 4", 2);
        worth("((((7))))", 7);
        worth("3 = 3 and 2 < 1 or 4 > 3", 1);
        // One relation at most between two words.
        book.fault("light 1 < 2 < 3;", 2, 12);
        book.fault("light 1 = 2 > 3;", 2, 12);
        book.fault("light not 1 < 2 = 3;", 2, 16);
        worth("(1 < 2) < 3", 1);
        worth("1 < 2 or 2 < 3", 1);
        book.fault("light 1 + not 2;", 2, 10);
        book.fault("light 1 = not 2;", 2, 10);
        book.fault("light 2 * not 2;", 2, 10);
        worth("1 = (not 0)", 1);
    }

    private void rows() {
        String[] row = new String[LONGEST + 1];
        for (int length = 0; length <= LONGEST; length++) {
            int count = (int) Math.round(Math.pow(SHORT.size(), length));
            for (int number = 0; number < count; number++) {
                int rest = number;
                for (int i = 0; i < length; i++) {
                    row[i] = SHORT.get(rest % SHORT.size());
                    rest /= SHORT.size();
                }
                row[length] = ";";
                hold(row, length + 1);
            }
        }
    }

    private void hold(String[] row, int length) {
        int wrong = firstWrong(row, length);
        StringBuilder text = new StringBuilder("look");
        int place = NONE;
        for (int i = 0; i < length; i++) {
            text.append(' ');
            place = i == wrong ? text.length() : place;
            text.append(row[i]);
        }
        FaceSenate x = new FaceSenate();
        Check.tell(x, text.toString());
        int answer = x.senate();
        int fault = x.fault(0);
        if (answer != (wrong == NONE ? 0 : NONE) || fault != (wrong == NONE ? 0 : 2) || x.fault(1) != place) {
            book.due("place of the FAULT of \"" + text + "\"", place, x.fault(1));
            book.due("FAULT of \"" + text + "\"", wrong == NONE ? 0 : 2, fault);
            book.due("senate() of \"" + text + "\"", wrong == NONE ? 0 : NONE, answer);
        }
    }

    /** Which TOKEN of an e and its ; can't stand where it does, the first one; NONE if all can. */
    private static int firstWrong(String[] row, int length) {
        boolean[] related = new boolean[LONGEST + 2];
        boolean unitDue = true;
        boolean notCan = true;
        int open = 0;
        for (int i = 0; i < length; i++) {
            String token = row[i];
            boolean opens = token.equals("(");
            boolean negates = token.equals("not");
            boolean joins = token.equals("or") || token.equals("and");
            boolean relates = token.equals("<");
            boolean closes = token.equals(")");
            boolean begins = opens || negates || token.equals("1") || token.equals("face");
            boolean outOfTurn = begins != unitDue || negates && !notCan || relates && related[open];
            if (outOfTurn || closes && open == 0 || token.equals(";") && open > 0) {
                return i;
            }
            open += opens ? 1 : closes ? -1 : 0;
            related[open] = relates || related[open] && !joins && !opens;
            unitDue = opens || negates || !begins && !closes;
            notCan = opens || negates || joins;
        }
        return NONE;
    }
}
