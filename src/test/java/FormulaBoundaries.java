/** The boundaries of SEATS, of what comes of look and light, and of a STEP. */
final class FormulaBoundaries {
    private final Book book;

    FormulaBoundaries(Book book) {
        this.book = book;
    }

    void hold() {
        book.terms();
        seats();
        light();
        dark();
        ints();
        divisions();
        truths();
        beginning();
        look();
        lookClamped();
        seed();
        wince();
    }

    /** What comes of light on SEAT 7 (row 2, column 1) of 3 by 3, with NEWS 6 and one who sits there. */
    private void worth(String formula, int want) {
        FaceSenate x = book.senate("hall 3 by 3;district d mood 1;member m for d face 5 stoic 4 at 1 2;"
                + "member n for d face 3 at 1 1;light " + formula + ";");
        x.news(6);
        book.due("light " + formula, want, x.seat(7, 1));
        book.due("light " + formula + ", for him", want, x.member(0, 6));
    }

    /** The FACE that comes of look for one on SEAT 7 (row 2, column 1) of 3 by 3, with NEWS 6, beside one with FACE 3. */
    private void face(String formula, int want) {
        FaceSenate x = book.senate("hall 3 by 3;district d mood 1;member m for d face 5 stoic 4 at 1 2;"
                + "member n for d face 3 at 1 1;light 8;look " + formula + ";");
        x.news(6);
        x.step();
        book.due("look " + formula, want, x.member(0, 0));
    }

    private void seats() {
        book.says("SEATS are numbered: row * COLUMNS + column. BESIDE one who is seated sit those one column, or one row, "
                + "from him.");
        FaceSenate x = book.senate("hall 3 by 2;district a mood 1;member a for a face 1 at 2 0;member b for a face 2 at 0 1;"
                + "member c for a face 4 at 1 1;member d for a face 8;");
        book.due("SEAT", 2, x.member(0, 1));
        book.due("SEAT", 3, x.member(1, 1));
        book.due("the end of a row is not BESIDE the next one's first", 0, x.member(0, 4));
        book.due("nor is one row and one column", 2, x.member(2, 4));
        x.sit(0, 1);
        book.due("one row from him", 4, x.member(0, 4));
        book.due("both", 3, x.member(2, 4));
        x.sit(0, 5);
        book.due("the last one of the row", 4, x.member(0, 4));
        book.due("on both sides", 3, x.member(2, 4));
        book.due("two columns are too many", 4, x.member(1, 4));
        book.due("one who is not seated", 0, x.member(3, 4));
        x.unseat(2);
        book.due("nor has he one BESIDE him any more", 0, x.member(1, 4));
        book.due("two without SEATS are not BESIDE one another", 0, x.member(2, 4));
        x = book.senate("hall 1 by 1;district a mood 1;member a for a face 1 at 0 0;");
        book.due("alone", 0, x.member(0, 4));
        // All four sides in the middle.
        x = book.senate("hall 3 by 3;district a mood 1;member a for a face 1 at 1 1;member b for a face 2 at 1 0;"
                + "member c for a face 3 at 0 1;member d for a face 4 at 2 1;member e for a face 5 at 1 2;");
        book.due("four", 30, x.member(0, 4));
        book.due("their FACES", 14, x.member(0, 5));
    }

    private void light() {
        book.says("A SEAT is as BRIGHT as what comes of light (5, if it is not told) by row, column, step (0 at first), "
                + "others 0; 0 at least, 9 at most;");
        FaceSenate x = new FaceSenate();
        book.due("not told", 5, x.seat(0, 1));
        book.due("not told", 5, x.seat(15, 1));
        worth("row * 3 + column", 7);
        worth("step + 2", 2);
        worth("face + near + beside + bright + stoic + news", 0);
        worth("9", 9);
        worth("10", 9);
        worth("9999", 9);
        worth("0", 0);
        worth("0 - 1", 0);
        worth("0 - 9999", 0);
        x = book.senate("light step * 4;");
        int[] bright = {0, 4, 8, 9};
        for (int step = 0; step < bright.length; step++) {
            book.due("behind " + step + " STEPS", bright[step], x.seat(3, 1));
            x.step();
        }
    }

    private void dark() {
        book.says("0 for one who is not seated");
        FaceSenate x = book.senate("district a mood 1;member a for a face 1;member b for a face 1 at 0 0;light 7;look bright;");
        book.due("not seated", 0, x.member(0, 6));
        book.due("seated", 7, x.member(1, 6));
        x.step();
        book.due("behind a STEP", 0, x.member(0, 0));
        book.due("behind a STEP", 7, x.member(1, 0));
        x.unseat(1);
        book.due("unseated", 0, x.member(1, 6));
    }

    private void ints() {
        book.says("(ints, wrapping;");
        worth("8192 * 8192 * 32 < 0", 1);
        worth("8192 * 8192 * 32 - 1 > 0", 1);
        worth("8192 * 8192 * 32 + (8192 * 8192 * 32) = 0", 1);
        worth("0 - 8192 * 8192 * 32 < 0", 1);
        worth("(8192 * 8192 * 32 - 1 + 1) / 8192 / 8192 = 0 - 32", 1);
        worth("8192 * 8192 * 64", 0);
        worth("8192 * 8192 * 64 + 8", 8);
        // 9999 * 9999 * 47 wraps to 404,092,751.
        worth("9999 * 9999 * 47 / 9999 / 9999", 4);
        worth("8192 * 8192 * 16 * 2", 0);
        worth("8192 * 8192 * 16", 9);
        face("8192 * 8192 * 32 - 1", 9);
        face("8192 * 8192 * 32", 0);
    }

    private void divisions() {
        book.says("/ cut, % its rest, both by 0: 0;");
        worth("7 / 0", 0);
        worth("7 % 0", 0);
        worth("0 / 0 + 3", 3);
        worth("7 / (1 - 1) + 2", 2);
        worth("7 % (1 - 1) + 2", 2);
        worth("7 / 2", 3);
        worth("(0 - 7) / 2 + 9", 6);
        worth("7 / (0 - 2) + 9", 6);
        worth("(0 - 7) / (0 - 2)", 3);
        worth("7 % 4", 3);
        worth("(0 - 7) % 4 + 9", 6);
        worth("7 % (0 - 4)", 3);
        worth("(0 - 7) % (0 - 4) + 9", 6);
        worth("3 / 4", 0);
        worth("3 % 4", 3);
        // The least int by -1: it wraps, and leaves no rest.
        worth("8192 * 8192 * 32 / (0 - 1) = 8192 * 8192 * 32", 1);
        worth("8192 * 8192 * 32 % (0 - 1) + 3", 3);
        face("face / (face - 5)", 0);
        face("face % (face - 5) + 1", 1);
    }

    private void truths() {
        book.says("relations, and, or, not are 1 or 0, of what is not 0).");
        worth("(1 < 2) + (2 < 2) * 2 + (3 < 2) * 4", 1);
        worth("(1 > 2) + (2 > 2) * 2 + (3 > 2) * 4", 4);
        worth("(1 = 2) + (2 = 2) * 2 + (3 = 2) * 4", 2);
        worth("0 - 1 < 0", 1);
        worth("5 and 7", 1);
        worth("0 - 1 and 0 - 2", 1);
        worth("5 and 0", 0);
        worth("0 and 5", 0);
        worth("0 or 0", 0);
        worth("0 or 0 - 3", 1);
        worth("4 or 6", 1);
        worth("not 0", 1);
        worth("not 7", 0);
        worth("not (0 - 7)", 0);
        worth("not not 7", 1);
        worth("1 or 1 and 0", 1);
        worth("not 0 and 0", 0);
        worth("not 1 = 0", 1);
        worth("(not 1) = 0", 1);
        worth("3 + (2 < 1)", 3);
        worth("8 - 3 - 2", 3);
        worth("8 / 2 / 2 * 3", 6);
        worth("2 + 2 * 3", 8);
        worth("1 + 1 < 1 * 3", 1);
    }

    private void beginning() {
        book.says("The NEWS is 0 at first. A FACE is 0 .. 9.");
        FaceSenate x = book.senate("district a mood 1;member a for a face 0;member b for a face 9;look face + news;");
        book.due("NEWS", 0, x.about(4));
        book.due("the least FACE", 0, x.member(0, 0));
        book.due("the greatest FACE", 9, x.member(1, 0));
        x.step();
        book.due("NEWS 0: all stay", 9, x.report());
        x.news(9);
        x.step();
        book.due("9, and 9 at most", 18, x.report());
    }

    private void look() {
        book.says("each MEMBER's FACE becomes what comes of look (his FACE, if it is not told) by face, near (FACES of all "
                + "BESIDE him together), beside (how many these are), bright, stoic, news, step, row, column (of his SEAT; "
                + "0 both without one)");
        face("face", 5);
        face("near", 3);
        face("beside", 1);
        face("bright", 8);
        face("stoic", 4);
        face("news", 6);
        face("step", 0);
        face("row", 2);
        face("column", 1);
        FaceSenate x = book.senate("hall 3 by 3;district d mood 1;member m for d face 5 at 1 2;member n for d face 3;");
        x.step();
        book.due("not told", 5, x.member(0, 0));
        book.due("not told", 3, x.member(1, 0));
        x = book.senate("hall 3 by 3;district d mood 1;member m for d face 5;look row + column * 2 + near + beside + 1;");
        x.step();
        book.due("without a SEAT", 1, x.member(0, 0));
        x.sit(0, 8);
        x.step();
        book.due("with one", 7, x.member(0, 0));
        x.unseat(0);
        x.step();
        book.due("without one again", 1, x.member(0, 0));
        x = book.senate("district d mood 1;member m for d face 5;look step;");
        for (int step = 0; step < 12; step++) {
            x.step();
            book.due("the step ahead of it", Math.min(step, 9), x.member(0, 0));
        }
    }

    private void lookClamped() {
        book.says("0 at least, 9 at most, all by what is so ahead of this;");
        face("9", 9);
        face("10", 9);
        face("face * 1000", 9);
        face("face - 5", 0);
        face("face - 6", 0);
        face("0 - 9999", 0);
        // All by what is so ahead: two BESIDE one another change their FACES for the other's.
        FaceSenate x = book.senate("hall 2 by 1;district a mood 1;member a for a face 2 at 0 0;member b for a face 7 at 1 0;"
                + "look near;light step;");
        x.step();
        book.due("a", 7, x.member(0, 0));
        book.due("b", 2, x.member(1, 0));
        x = book.senate("hall 2 by 1;district a mood 1;member a for a face 2 at 0 0;look bright;light step + 3;");
        x.step();
        book.due("by the light ahead of it", 3, x.member(0, 0));
        // A toothache comes behind all the changes: b sees a's FACE as it was, and is not seen wincing.
        x = book.senate("hall 2 by 1;district a mood 1;member a for a face 2 at 0 0;member b for a face 7 at 1 0;"
                + "look near;tooth 100 of 1;");
        x.step();
        book.due("a", 6, x.member(0, 0));
        book.due("b", 1, x.member(1, 0));
    }

    private void seed() {
        book.says("the SEED (draw, at first) becomes its 137-fold and 71 more, modulo 1,000");
        FaceSenate x = book.senate("district a mood 1;member a for a face 2;draw 999;");
        book.due("SEED", 999, x.about(6));
        x.step();
        // 999 * 137 + 71 = 136,934
        book.due("SEED", 934, x.about(6));
        x.undo();
        book.due("SEED, undone", 999, x.about(6));
        x = book.senate("district a mood 1;member a for a face 2;draw 0;");
        x.step();
        book.due("SEED", 71, x.about(6));
        // 817 * 137 + 71 = 112,000
        x = book.senate("district a mood 1;member a for a face 2;draw 817;");
        x.step();
        book.due("SEED", 0, x.about(6));
        x = book.senate("draw 5;");
        x.step();
        book.due("SEED without MEMBERS", 5, x.about(6));
        x = book.senate("district a mood 1;member a for a face 2;member b for a face 2;draw 0;");
        x.step();
        book.due("SEED behind two draws", 798, x.about(6));
    }

    private void wince() {
        book.says("if its rest by 100 is less than tooth tells, his FACE is so much less as is told (0 at least: a WINCE); "
                + "the step goes up by 1.");
        // draw 0: the SEED becomes 71.
        String one = "district a mood 1;member a for a face 5;draw 0;tooth ";
        FaceSenate x = book.senate(one + "71 of 2;");
        book.due("71 is not less than 71", 0, x.step());
        book.due("FACE", 5, x.member(0, 0));
        x = book.senate(one + "72 of 2;");
        book.due("71 is less than 72", 1, x.step());
        book.due("FACE", 3, x.member(0, 0));
        x = book.senate(one + "72 of 5;");
        x.step();
        book.due("FACE", 0, x.member(0, 0));
        x = book.senate(one + "72 of 6;");
        x.step();
        book.due("0 at least", 0, x.member(0, 0));
        book.due("step", 1, x.about(5));
        // draw 17: 17 * 137 + 71 = 2,400, whose rest by 100 is 0.
        x = book.senate("district a mood 1;member a for a face 5;draw 17;tooth 1 of 1;");
        book.due("0 is less than 1", 1, x.step());
        x = book.senate("district a mood 1;member a for a face 5;draw 17;tooth 0 of 1;");
        book.due("0 is not less than 0", 0, x.step());
        // draw 44: 44 * 137 + 71 = 6,099.
        x = book.senate("district a mood 1;member a for a face 5;draw 44;tooth 99 of 1;");
        book.due("99 is not less than 99", 0, x.step());
        x = book.senate("district a mood 1;member a for a face 5;draw 44;tooth 100 of 1;");
        book.due("99 is less than 100", 1, x.step());
    }
}
