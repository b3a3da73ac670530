/** The boundaries of LOOKS and the TIME, promises 39 to 43. */
final class LookBoundaries {
    private static final int NONE = FaceSenate.NONE;

    /** Behind a STEP his FACE is what the NEWS are; he is 5 now. */
    private static final String HEARS = Halls.ONE + "look news;";

    private final Book book;

    LookBoundaries(Book book) {
        this.book = book;
    }

    void hold() {
        looks();
        thirty();
        untell();
        later();
        time();
        knownAt();
        soMuchAtLeast();
        fits();
        ask();
    }

    private void looks() {
        book.promise(39);
        book.says("A LOOK (STEPS 0 .. 6, FACE 0 .. 9): its number;");
        FaceSenate x = book.senate(Halls.SEVEN);
        book.due("looks(0, 0, 0, true)", 0, x.looks(0, 0, 0, true));
        book.due("looks(6, 6, 9, false)", 1, x.looks(6, 6, 9, false));
        book.due("the same again", 2, x.looks(6, 6, 9, false));
        book.due("LOOKS", 3, x.about(9));
        book.says("NONE, doing nothing, if one can't be, or there are 30.");
        for (int steps : Book.outside(0, 6)) {
            Twins.refused(book, "looks(" + steps + ", 0, 0, true)", NONE, y -> y.looks(steps, 0, 0, true));
        }
        for (int m : Book.outside(0, 3)) {
            Twins.refused(book, "looks(0, " + m + ", 0, true)", NONE, y -> y.looks(0, m, 0, true));
        }
        for (int face : Book.outside(0, 9)) {
            Twins.refused(book, "looks(0, 0, " + face + ", false)", NONE, y -> y.looks(0, 0, face, false));
        }
        book.due("nobody", NONE, new FaceSenate().looks(0, 0, 0, true));
        Twins.refused(book, "looks, there are 30", NONE, LookBoundaries::full, y -> y.looks(0, 0, 9, true));
    }

    private static FaceSenate full() {
        FaceSenate x = Twins.busy();
        for (int i = 2; i < 30; i++) {
            x.looks(0, 0, 0, true);
        }
        return x;
    }

    private void thirty() {
        book.terms();
        book.says("LOOKS, 30 at most, are TOLD at a TIME (0 at first, goes on), UNTOLD at a later one or the same:");
        FaceSenate x = book.senate(HEARS);
        for (int i = 0; i < 30; i++) {
            book.due("looks", i, x.looks(1, 0, i / 4, true));
        }
        book.due("the 31st", NONE, x.looks(1, 0, 9, true));
        book.due("LOOKS", 30, x.about(9));
        book.due("fits(0): 7 and more", 0x380, x.fits(0));
        book.due("untell(29)", true, x.untell(29));
        book.due("untell(28)", true, x.untell(28));
        book.due("fits(0): 6 and more", 0x3c0, x.fits(0));
        book.due("untold ones are LOOKS, too", NONE, x.looks(1, 0, 9, true));
        book.due("LOOKS", 30, x.about(9));
        book.due("TIME", 0, x.about(10));
        Check.tell(x, HEARS);
        x.senate();
        book.due("another SENATE, none is there", false, x.untell(0));
        book.due("another SENATE, from the first number on", 0, x.looks(1, 0, 9, true));
    }

    private void untell() {
        book.promise(40);
        book.says("It is UNTOLD: true; false if it is so already, or there is none such.");
        FaceSenate x = book.senate(HEARS);
        book.due("there is none", false, x.untell(0));
        x.looks(1, 0, 5, true);
        x.looks(1, 0, 6, true);
        book.due("untell(0)", true, x.untell(0));
        book.due("untell(0), already", false, x.untell(0));
        x.later(5);
        book.due("untell(0), already", false, x.untell(0));
        book.due("untell(1)", true, x.untell(1));
        book.due("it was UNTOLD at 5: fits(4)", 0x3c0, x.fits(4));
        book.due("it was UNTOLD at 5: fits(5)", 1023, x.fits(5));
        for (int look : Book.outside(0, 1)) {
            book.due("untell(" + look + ")", false, x.untell(look));
        }
        for (int look : new int[] {0, 2, -1, 29, 30, Integer.MIN_VALUE, Integer.MAX_VALUE}) {
            Twins.refused(book, "untell(" + look + ")", 0, y -> y.untell(look) ? 1 : 0);
        }
    }

    private void later() {
        book.promise(41);
        book.says("So much later (0 .. 1000): the TIME;");
        FaceSenate x = new FaceSenate();
        book.due("later(0)", 0, x.later(0));
        book.due("later(1000)", 1000, x.later(1000));
        book.due("later(1)", 1001, x.later(1));
        book.says("NONE, doing nothing, for another number, or if it would be above 100,000.");
        for (int by : Book.outside(0, 1000)) {
            Twins.refused(book, "later(" + by + ")", NONE, y -> y.later(by));
        }
        Twins.refused(book, "later(1), it is 100,000", NONE, () -> lateTo(100000), y -> y.later(1));
        Twins.refused(book, "later(1000), it is 99,001", NONE, () -> lateTo(99001), y -> y.later(1000));
        book.due("later(999), it is 99,001", 100000, lateTo(99001).later(999));
        book.due("later(0), it is 100,000", 100000, lateTo(100000).later(0));
        book.due("later(1000), it is 99,000", 100000, lateTo(99000).later(1000));
        x = lateTo(100000);
        x.looks(0, 0, 0, false);
        book.due("told at 100,000: fits(99999)", true, x.fits(99999) != 0);
        book.due("told at 100,000: fits(100000)", 0, x.fits(100000));
    }

    private static FaceSenate lateTo(int time) {
        FaceSenate x = Twins.busy();
        for (int i = 0; i < 101 && x.about(10) < time; i++) {
            x.later(Math.min(1000, time - x.about(10)));
        }
        return x;
    }

    private void time() {
        book.promise(46);
        book.says("10: the TIME");
        book.due("TIME", 99001, lateTo(99001).about(10));
        FaceSenate x = lateTo(100000);
        x.senate();
        book.due("the TIME stays", 100000, x.about(10));
        x.back(0);
        book.due("the TIME stays", 100000, x.about(10));
    }

    private void knownAt() {
        book.terms();
        book.says("As known at k those count that were TOLD at k or before, not UNTOLD at k or before.");
        FaceSenate x = book.senate(HEARS);
        x.later(3);
        x.looks(1, 0, 5, true);
        x.later(4);
        x.untell(0);
        int[][] want = {{Integer.MIN_VALUE, 1023}, {-1, 1023}, {0, 1023}, {2, 1023}, {3, 0x3e0}, {6, 0x3e0}, {7, 1023},
            {8, 1023}, {Integer.MAX_VALUE, 1023}};
        for (int[] w : want) {
            book.due("fits(" + w[0] + ")", w[1], x.fits(w[0]));
        }
        x.looks(1, 0, 9, true);
        book.due("fits(6), told at 7", 0x3e0, x.fits(6));
        book.due("fits(7)", 0x200, x.fits(7));
        book.due("fits(MAX)", 0x200, x.fits(Integer.MAX_VALUE));
        x.untell(1);
        book.due("fits(7), told and UNTOLD at the same", 1023, x.fits(7));
        book.due("fits(8)", 1023, x.fits(8));
        book.due("ask(1, 1, 3)", 1, x.ask(1, 1, 3));
        book.due("ask(0, 1, 3), by the five that fit then", 5, x.ask(0, 1, 3));
        book.due("ask(0, 1, 7)", 10, x.ask(0, 1, 7));
    }

    private void soMuchAtLeast() {
        book.says("that, if some NEWS were let in now, behind so many STEPS (0 .. 6) a MEMBER's FACE would be so much at least, "
                + "or would not.");
        int[][] want = {{0, 1, 1023}, {1, 1, 1022}, {9, 1, 0x200}, {0, 0, 0}, {1, 0, 1}, {9, 0, 0x1ff}};
        for (int[] w : want) {
            FaceSenate x = book.senate(HEARS);
            x.looks(1, 0, w[0], w[1] == 1);
            book.due("looks(1, 0, " + w[0] + ", " + (w[1] == 1) + ")", w[2], x.fits(0));
        }
        // Behind no STEP he is 5, whatever the NEWS.
        FaceSenate x = book.senate(HEARS);
        x.looks(0, 0, 5, true);
        x.looks(0, 0, 6, false);
        book.due("behind no STEP", 1023, x.fits(0));
        x.looks(0, 0, 6, true);
        book.due("behind no STEP", 0, x.fits(0));
        // He is more by one in the sixth STEP alone, if the NEWS are 3.
        x = book.senate(Halls.ONE + "look face + (step = 5) * (news = 3);");
        x.looks(5, 0, 6, false);
        book.due("behind five STEPS", 1023, x.fits(0));
        x.looks(6, 0, 6, true);
        book.due("behind six STEPS", 8, x.fits(0));
        x.news(7);
        book.due("the NEWS that are now don't count", 8, x.fits(0));
    }

    private void fits() {
        book.says("FITS: NEWS (0 .. 9) by which all that count are so.");
        FaceSenate x = book.senate(HEARS);
        book.due("no LOOKS", 1023, x.fits(0));
        x.looks(1, 0, 4, true);
        x.looks(1, 0, 7, false);
        book.due("all that count", 0x70, x.fits(0));
        x.looks(1, 0, 7, true);
        book.due("none", 0, x.fits(0));
        book.due("nobody", 1023, new FaceSenate().fits(0));
    }

    private void ask() {
        book.says("ASK for so many STEPS: the MEMBER at whose FACE then to look would leave the fewest of these at the most (by "
                + "which FACE he had); of like ones the first.");
        FaceSenate x = book.senate("district a mood 1;member a for a face 5;member b for a face 5 stoic 1;"
                + "member c for a face 5 stoic 1;member d for a face 5 stoic 2;look (stoic = 1) * news + (stoic = 2) * (news / 2);");
        // a tells nothing, b and c tell all, d leaves two.
        book.due("of like ones the first", 1, x.ask(1, 0, 0));
        book.due("left", 1, x.ask(1, 1, 0));
        book.due("now all are like", 0, x.ask(0, 0, 0));
        book.due("now all are left", 10, x.ask(0, 1, 0));
        // At the most: seven by one FACE are more than five by each of two.
        x = book.senate("district a mood 1;member a for a face 5;member b for a face 5 stoic 1;"
                + "look (stoic = 0) * (news > 6) * (news - 6) + (stoic = 1) * (news > 4);");
        book.due("five and five", 1, x.ask(1, 0, 0));
        book.due("five at the most", 5, x.ask(1, 1, 0));
        x.looks(1, 1, 1, true);
        book.due("of the five that are left", 0, x.ask(1, 0, 0));
        book.due("two at the most", 2, x.ask(1, 1, 0));
        // Of all seven the last one tells most: he alone hears the NEWS.
        x = book.senate(Halls.SEVEN.replace("face 7", "face 7 stoic 1") + "look face * (stoic = 0) + stoic * news;");
        book.due("the seventh", 6, x.ask(1, 0, 0));
        book.due("one at the most", 1, x.ask(1, 1, 0));
        book.due("the seventh, behind six", 6, x.ask(6, 0, 0));
        book.due("now they are like", 0, x.ask(0, 0, 0));
        x.looks(1, 6, 8, true);
        book.due("8 and 9", 0x300, x.fits(0));
        book.promise(43);
        book.says("ASK (STEPS 0 .. 6) what 0: the MEMBER, 1: how many are left at the most; NONE if none FITS, there are no "
                + "MEMBERS, or one can't be.");
        x = book.senate("district a mood 1;member a for a face 5;member b for a face 5 stoic 1;"
                + "look (stoic = 0) * (news > 6) * (news - 6) + (stoic = 1) * (news > 4);");
        x.looks(1, 1, 1, true);
        book.due("ask(6, 0, 0)", 0, x.ask(6, 0, 0));
        for (int steps : Book.outside(0, 6)) {
            book.due("ask(" + steps + ", 0, 0)", NONE, x.ask(steps, 0, 0));
            book.due("ask(" + steps + ", 1, 0)", NONE, x.ask(steps, 1, 0));
        }
        for (int what : Book.outside(0, 1)) {
            book.due("ask(1, " + what + ", 0)", NONE, x.ask(1, what, 0));
        }
        book.due("no MEMBERS", NONE, new FaceSenate().ask(0, 0, 0));
        book.due("no MEMBERS", NONE, new FaceSenate().ask(0, 1, 0));
        x.later(1);
        x.looks(0, 0, 6, true);
        book.due("none FITS", NONE, x.ask(1, 0, 1));
        book.due("none FITS", NONE, x.ask(1, 1, 1));
        book.due("as known before", 2, x.ask(1, 1, 0));
        book.due("as known long before", 5, x.ask(1, 1, Integer.MIN_VALUE));
        x = book.senate(HEARS);
        x.looks(1, 0, 9, true);
        book.due("one FITS", 1, x.ask(0, 1, 0));
    }
}
