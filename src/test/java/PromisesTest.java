/** Promises 6 to 46, each by answers that were worked out by hand. */
public final class PromisesTest {
    private static final Check CHECK = new Check();
    private static final int NONE = FaceSenate.NONE;

    private static final String TRIO = Halls.TRIO;
    private static final String SEVEN = Halls.SEVEN;

    public static void main(String[] args) {
        member();
        district();
        seat();
        reportAndOff();
        step();
        winces();
        news();
        sit();
        change();
        unseat();
        undoAndRedo();
        actsKept();
        stand();
        sample();
        chain();
        groups();
        place();
        move();
        settled();
        will();
        ahead();
        alike();
        unrest();
        sways();
        brightest();
        parties();
        least();
        best();
        odds();
        moved();
        key();
        looks();
        looksByTime();
        later();
        ask();
        images();
        about();
        CHECK.end("PromisesTest");
    }

    private static void due(String call, long want, long got) {
        CHECK.due(call, want, got);
    }

    private static void due(String call, boolean want, boolean got) {
        CHECK.due(call, want, got);
    }

    private static void member() {
        FaceSenate x = CHECK.senate(TRIO);
        int[][] want = {{3, 0, 0, 0, 2, 6, 0}, {6, 1, 0, 4, 1, 3, 3}, {9, NONE, 1, 2, 0, 0, 0}};
        for (int m = 0; m < 3; m++) {
            for (int what = 0; what < 7; what++) {
                due("member(" + m + ", " + what + ")", want[m][what], x.member(m, what));
            }
            due("member(m, 7)", -2, x.member(m, 7));
            due("member(m, -1)", -2, x.member(m, -1));
        }
        due("member(3, 0)", -2, x.member(3, 0));
        due("member(-1, 0)", -2, x.member(-1, 0));
        due("member(MIN, 0)", -2, x.member(Integer.MIN_VALUE, 0));
        x = CHECK.senate(SEVEN);
        int[] beside = {2 + 8, 1 + 4, 2 + 16, 1 + 32, 4, 8 + 64, 32};
        int[] near = {6, 4, 7, 7, 3, 11, 6};
        for (int m = 0; m < 7; m++) {
            due("seven: member(" + m + ", 4)", beside[m], x.member(m, 4));
            due("seven: member(" + m + ", 5)", near[m], x.member(m, 5));
            due("seven: member(" + m + ", 6)", 5, x.member(m, 6));
        }
        // The last of a row and the first of the next one are not BESIDE one another.
        x = CHECK.senate("hall 2 by 2;district a mood 1;member a for a face 1 at 1 0;member b for a face 1 at 0 1;");
        due("member(0, 4)", 0, x.member(0, 4));
    }

    private static void district() {
        FaceSenate x = CHECK.senate(TRIO);
        int[][] want = {{5, 3, 9, 1}, {2, 4, 9, 7}};
        for (int d = 0; d < 2; d++) {
            for (int what = 0; what < 4; what++) {
                due("district(" + d + ", " + what + ")", want[d][what], x.district(d, what));
            }
            due("district(d, 4)", NONE, x.district(d, 4));
            due("district(d, -1)", NONE, x.district(d, -1));
        }
        due("district(2, 0)", NONE, x.district(2, 0));
        due("district(-1, 0)", NONE, x.district(-1, 0));
        x = CHECK.senate("district a mood 7;");
        due("district without MEMBERS, OFF", 0, x.district(0, 3));
        due("district without MEMBERS, bits", 0, x.district(0, 1));
    }

    private static void seat() {
        FaceSenate x = CHECK.senate(TRIO);
        due("seat(0, 0)", 0, x.seat(0, 0));
        due("seat(1, 0)", 1, x.seat(1, 0));
        due("seat(2, 0)", NONE, x.seat(2, 0));
        due("seat(2, 1)", 6, x.seat(2, 1));
        x.step();
        due("seat(2, 1) behind a STEP", 7, x.seat(2, 1));
        due("seat(3, 0)", -2, x.seat(3, 0));
        due("seat(-1, 0)", -2, x.seat(-1, 0));
        due("seat(0, 2)", -2, x.seat(0, 2));
        due("seat(0, -1)", -2, x.seat(0, -1));
    }

    private static void reportAndOff() {
        FaceSenate x = CHECK.senate(TRIO);
        due("report()", 18, x.report());
        due("off()", 8, x.off());
        x.step();
        due("report()", 12, x.report());
        due("off()", 5 + 5, x.off());
    }

    private static void step() {
        FaceSenate x = CHECK.senate(TRIO);
        due("step()", 0, x.step());
        due("FACE of x", 3, x.member(0, 0));
        due("FACE of y", 2, x.member(1, 0));
        due("FACE of z", 7, x.member(2, 0));
        due("step", 1, x.about(5));
        // 0 -> 71 -> 71 * 137 + 71 = 9798 -> 798 * 137 + 71 = 109397
        due("SEED behind three draws", 397, x.about(6));
        due("ACTS", 1, x.about(7));
        // All FACES change by what is so ahead of the STEP, and by the light of that time.
        x = CHECK.senate("hall 2 by 2;district a mood 1;member a for a face 1 at 0 0;member b for a face 2 at 1 0;"
                + "member c for a face 4 at 0 1;member d for a face 9;look near + beside * 0 + bright * 3;light step + row;");
        x.step();
        due("a", 6, x.member(0, 0));
        due("b", 1, x.member(1, 0));
        due("c", 4, x.member(2, 0));
        due("d", 0, x.member(3, 0));
        x.step();
        due("a", 1 + 4 + 3, x.member(0, 0));
        due("b", 6 + 3, x.member(1, 0));
        due("c", 9, x.member(2, 0));
        x = CHECK.senate("hall 3 by 3;district a mood 1;member a for a face 1 at 2 1;member b for a face 1;"
                + "look row * 3 + column + step + beside;");
        x.step();
        due("by row and column", 5, x.member(0, 0));
        due("without a SEAT", 0, x.member(1, 0));
        x.step();
        due("by the step", 6, x.member(0, 0));
        due("by the step", 1, x.member(1, 0));
        x = CHECK.senate("district a mood 1;member a for a face 1;");
        for (int i = 1; i <= 999; i++) {
            due("step() " + i, 0, x.step());
        }
        due("step() 1000", NONE, x.step());
        due("step", 999, x.about(5));
        x = CHECK.senate("district a mood 1;member a for a face 1;look face - 5;");
        x.step();
        due("0 at least", 0, x.member(0, 0));
        x = CHECK.senate("district a mood 1;member a for a face 1;look face + 99;");
        x.step();
        due("9 at most", 9, x.member(0, 0));
    }

    private static void winces() {
        // SEED 7 -> 1030 -> 30; 30 -> 4181 -> 181; 181 -> 24868 -> 868: rests 30, 81, 68.
        String text = "district a mood 5;member x for a face 3;member y for a face 6;member z for a face 0;draw 7;";
        FaceSenate x = CHECK.senate(text + "tooth 69 of 4;");
        due("step()", 1 + 4, x.step());
        due("x winced to 0 at least", 0, x.member(0, 0));
        due("y", 6, x.member(1, 0));
        due("z was 0", 0, x.member(2, 0));
        due("SEED", 868, x.about(6));
        x = CHECK.senate(text + "tooth 68 of 1;");
        due("step(), 68 is not less than 68", 1, x.step());
        due("x", 2, x.member(0, 0));
        x = CHECK.senate(text + "tooth 100 of 2;");
        due("step(), all", 7, x.step());
        due("y", 4, x.member(1, 0));
        x = CHECK.senate(text);
        due("step(), no tooth told", 0, x.step());
        due("SEED goes on without a tooth", 868, x.about(6));
        x = CHECK.senate(text + "tooth 0 of 9;");
        due("step(), none", 0, x.step());
    }

    private static void news() {
        FaceSenate x = CHECK.senate(TRIO);
        due("news(0), the same", NONE, x.news(0));
        due("news(3)", 0, x.news(3));
        due("news(3)", NONE, x.news(3));
        due("news(10)", NONE, x.news(10));
        due("news(-1)", NONE, x.news(-1));
        due("news(9)", 3, x.news(9));
        due("NEWS", 9, x.about(4));
        due("ACTS", 2, x.about(7));
    }

    private static void sit() {
        FaceSenate x = CHECK.senate(TRIO);
        due("sit(2, 2)", -2, x.sit(2, 2));
        due("sit(0, 2), not empty", NONE, x.sit(0, 2));
        due("sit(2, 2), his own", NONE, x.sit(2, 2));
        due("sit(2, 3)", NONE, x.sit(2, 3));
        due("sit(2, -1)", NONE, x.sit(2, -1));
        due("sit(3, 0)", NONE, x.sit(3, 0));
        due("sit(-1, 0)", NONE, x.sit(-1, 0));
        x.unseat(0);
        due("sit(2, 0)", 2, x.sit(2, 0));
        due("seat(0, 0)", 2, x.seat(0, 0));
        due("seat(2, 0)", NONE, x.seat(2, 0));
        due("ACTS", 3, x.about(7));
    }

    private static void change() {
        FaceSenate x = CHECK.senate(TRIO);
        due("change(0, 1)", true, x.change(0, 1));
        due("SEAT of 0", 1, x.member(0, 1));
        due("SEAT of 1", 0, x.member(1, 1));
        due("change(0, 2)", true, x.change(0, 2));
        due("SEAT of 0", NONE, x.member(0, 1));
        due("SEAT of 2", 1, x.member(2, 1));
        due("change(1, 1)", false, x.change(1, 1));
        due("change(1, 3)", false, x.change(1, 3));
        due("change(-1, 1)", false, x.change(-1, 1));
        x.unseat(1);
        due("change(0, 1), both have none", false, x.change(0, 1));
        due("ACTS", 3, x.about(7));
    }

    private static void unseat() {
        FaceSenate x = CHECK.senate(TRIO);
        due("unseat(1)", 1, x.unseat(1));
        due("SEAT", NONE, x.member(1, 1));
        due("unseat(1)", NONE, x.unseat(1));
        due("unseat(2)", NONE, x.unseat(2));
        due("unseat(3)", NONE, x.unseat(3));
        due("unseat(-1)", NONE, x.unseat(-1));
        due("ACTS", 1, x.about(7));
    }

    private static void undoAndRedo() {
        FaceSenate x = CHECK.senate(TRIO + "draw 5;tooth 50 of 1;");
        due("undo()", false, x.undo());
        due("redo()", false, x.redo());
        x.news(3);
        x.step();
        x.sit(2, 2);
        x.change(0, 1);
        x.unseat(0);
        int report = x.report();
        int seed = x.about(6);
        for (int i = 5; i > 0; i--) {
            due("ACTS to undo", i, x.about(7));
            due("ACTS to redo", 5 - i, x.about(8));
            due("undo()", true, x.undo());
        }
        due("undo()", false, x.undo());
        due("NEWS", 0, x.about(4));
        due("step", 0, x.about(5));
        due("SEED", 5, x.about(6));
        due("report()", 18, x.report());
        due("SEAT", 0, x.member(0, 1));
        due("SEAT", NONE, x.member(2, 1));
        for (int i = 0; i < 5; i++) {
            due("redo()", true, x.redo());
        }
        due("redo()", false, x.redo());
        due("report()", report, x.report());
        due("SEED", seed, x.about(6));
        due("SEAT", NONE, x.member(0, 1));
        due("SEAT", 2, x.member(2, 1));
        due("NEWS", 3, x.about(4));
        x.undo();
        x.undo();
        due("news(3), nothing done", NONE, x.news(3));
        due("still two to redo", 2, x.about(8));
        x.news(4);
        due("redo() behind another ACT", false, x.redo());
        due("ACTS to undo", 4, x.about(7));
    }

    private static void actsKept() {
        FaceSenate x = CHECK.senate(TRIO);
        for (int i = 1; i <= 45; i++) {
            x.news(i % 10);
        }
        due("ACTS", 40, x.about(7));
        for (int i = 44; i >= 5; i--) {
            due("undo()", true, x.undo());
            due("NEWS", i % 10, x.about(4));
        }
        due("undo()", false, x.undo());
        due("to redo", 40, x.about(8));
        for (int i = 6; i <= 45; i++) {
            due("redo()", true, x.redo());
            due("NEWS", i % 10, x.about(4));
        }
        due("redo()", false, x.redo());
    }

    private static void stand() {
        FaceSenate x = CHECK.senate(TRIO);
        int[][] want = {{4, 7}, {7, 7}, {2, 1}};
        for (int m = 0; m < 3; m++) {
            due("stand(" + m + ", 0)", want[m][0], x.stand(m, 0));
            due("stand(" + m + ", 1)", want[m][1], x.stand(m, 1));
        }
        due("stand(0, 2)", NONE, x.stand(0, 2));
        due("stand(0, -1)", NONE, x.stand(0, -1));
        due("stand(3, 0)", NONE, x.stand(3, 0));
        due("stand(-1, 0)", NONE, x.stand(-1, 0));
        due("nothing is done", 3, x.member(0, 0));
        x = CHECK.senate("district a mood 0;member a for a face 9;member b for a face 9;");
        due("0 at least", 0, x.stand(0, 0));
        due("OFF then", 9, x.stand(0, 1));
        x = CHECK.senate("district a mood 9;member a for a face 0;member b for a face 0;");
        due("9 at most", 9, x.stand(1, 0));
        due("OFF then", 9, x.stand(1, 1));
    }

    private static void sample() {
        FaceSenate x = CHECK.senate(TRIO);
        int[][] want = {{2, 6}, {5, 12}, {7, 18}};
        for (int n = 1; n <= 3; n++) {
            due("sample(" + n + ", 0)", want[n - 1][0], x.sample(n, 0));
            due("sample(" + n + ", 1)", want[n - 1][1], x.sample(n, 1));
            due("samples(" + n + ")", 1, x.samples(n));
        }
        due("sample(4, 0)", NONE, x.sample(4, 0));
        due("sample(0, 0)", NONE, x.sample(0, 0));
        due("sample(8, 0)", NONE, x.sample(8, 0));
        due("sample(1, 2)", NONE, x.sample(1, 2));
        due("sample(1, -1)", NONE, x.sample(1, -1));
        due("samples(4)", 0, x.samples(4));
        due("samples(7)", 0, x.samples(7));
        due("samples(0)", NONE, x.samples(0));
        due("samples(8)", NONE, x.samples(8));
        // FACES 1 .. 7 together 28: one is nearest by 4, three by twelve.
        x = CHECK.senate(SEVEN);
        due("seven: sample(1, 0)", 8, x.sample(1, 0));
        due("seven: samples(1)", 1, x.samples(1));
        due("seven: samples(2)", 3, x.samples(2));
        due("seven: sample(2, 0), 3 and 5", 4 + 16, x.sample(2, 0));
        due("seven: samples(3)", 5, x.samples(3));
        due("seven: sample(3, 0), 3 and 4 and 5", 4 + 8 + 16, x.sample(3, 0));
        due("seven: sample(7, 1)", 28, x.sample(7, 1));
        // As far above as below: the least set.
        x = CHECK.senate("district a mood 1;member a for a face 5;member b for a face 1;");
        due("like ones", 1, x.sample(1, 0));
        due("their FACES", 5, x.sample(1, 1));
    }

    private static void chain() {
        FaceSenate x = CHECK.senate(SEVEN);
        due("chain(0, 6)", 3, x.chain(0, 6));
        int[] way = {0, 3, 5, 6, NONE};
        for (int i = 0; i < way.length; i++) {
            due("lies(" + i + ")", way[i], x.lies(i));
        }
        due("lies(-1)", NONE, x.lies(-1));
        due("about(13)", 4, x.about(13));
        due("chain(4, 3)", 4, x.chain(4, 3));
        way = new int[] {4, 2, 1, 0, 3, NONE};
        for (int i = 0; i < way.length; i++) {
            due("lies(" + i + ")", way[i], x.lies(i));
        }
        due("chain(3, 3)", 0, x.chain(3, 3));
        due("lies(0)", 3, x.lies(0));
        due("about(13)", 1, x.about(13));
        due("chain(3, 7)", NONE, x.chain(3, 7));
        due("about(13)", 0, x.about(13));
        x.chain(3, 3);
        x.unseat(3);
        due("what lies there stays", 1, x.about(13));
        due("chain(3, 3), not seated", NONE, x.chain(3, 3));
        due("about(13)", 0, x.about(13));
        due("chain(0, 3)", NONE, x.chain(0, 3));
        due("chain(-1, 0)", NONE, x.chain(-1, 0));
        // A square: two ways of two looks, the first by the lesser number.
        x = CHECK.senate("hall 2 by 2;district a mood 1;member a for a face 1 at 0 0;member b for a face 1 at 0 1;"
                + "member c for a face 1 at 1 0;member d for a face 1 at 1 1;");
        due("chain(0, 3)", 2, x.chain(0, 3));
        due("lies(1)", 1, x.lies(1));
        due("chain(3, 0)", 2, x.chain(3, 0));
        due("lies(1)", 1, x.lies(1));
        due("lies(2)", 0, x.lies(2));
        // A line of seven.
        x = CHECK.senate("district a mood 1;member a for a face 1 at 0 0;member b for a face 1 at 1 0;"
                + "member c for a face 1 at 2 0;member d for a face 1 at 3 0;member e for a face 1 at 3 1;"
                + "member f for a face 1 at 3 2;member g for a face 1 at 3 3;");
        due("chain(6, 0)", 6, x.chain(6, 0));
        due("about(13)", 7, x.about(13));
        due("lies(6)", 0, x.lies(6));
    }

    private static void groups() {
        FaceSenate x = CHECK.senate(SEVEN);
        due("groups()", 1, x.groups());
        x.unseat(0);
        due("groups()", 2, x.groups());
        x.unseat(5);
        due("groups()", 3, x.groups());
        for (int m = 0; m < 7; m++) {
            x.unseat(m);
        }
        due("groups() of nobody seated", 0, x.groups());
        due("groups() of one alone", 1, CHECK.senate("district a mood 1;member a for a face 1 at 1 1;").groups());
    }

    private static void place() {
        FaceSenate x = CHECK.senate("hall 3 by 1;district a mood 1;member a for a face 5 at 1 0;member b for a face 4;"
                + "look bright;light 4 + (column = 2) - (column = 1) * 3;");
        // BRIGHT 4, 1, 5.
        due("place(0, 0)", 2, x.place(0, 0));
        due("place(0, 1)", 5, x.place(0, 1));
        due("place(1, 0)", 2, x.place(1, 0));
        due("place(1, 1)", 6, x.place(1, 1));
        due("place(2, 0)", NONE, x.place(2, 0));
        due("place(-1, 0)", NONE, x.place(-1, 0));
        due("place(0, 2)", NONE, x.place(0, 2));
        due("nothing is done", 1, x.member(0, 1));
        x.sit(0, 2);
        due("his own is best", 2, x.place(0, 0));
        x = CHECK.senate("hall 1 by 1;district a mood 1;member a for a face 5 at 0 0;member b for a face 4;");
        due("like ones: the first", 0, x.place(0, 0));
        due("REPORT", 9, x.place(0, 1));
        due("no SEAT for him", NONE, x.place(1, 0));
        due("no SEAT for him", NONE, x.place(1, 1));
        // What the others see changes, too.
        x = CHECK.senate("hall 4 by 1;district a mood 1;member a for a face 5 at 3 0;member b for a face 1 at 1 0;look near;");
        due("beside b", 0, x.place(0, 0));
        due("beside b", 6, x.place(0, 1));
    }

    private static void move() {
        FaceSenate x = CHECK.senate("hall 3 by 1;district a mood 1;member a for a face 5 at 0 0;member b for a face 4 at 1 0;"
                + "member c for a face 1;look bright * (face > 4);light column * 4 + 1;");
        // BRIGHT 1, 5: a on 1 makes 5.
        due("move(0)", 0, x.move(0));
        due("move(1)", 1, x.move(1));
        due("move(2)", 5, x.move(2));
        due("move(3)", NONE, x.move(3));
        due("move(-1)", NONE, x.move(-1));
        due("nothing is done", 0, x.member(0, 1));
        x.change(0, 2);
        // b and c are seated; a comes to 5 by changing with b.
        due("move(1)", 1, x.move(1));
        due("move(2)", 5, x.move(2));
        x = CHECK.senate("district a mood 1;member a for a face 5;member b for a face 4;");
        due("both have none", NONE, x.move(0));
        due("both have none", NONE, x.move(2));
        x.sit(1, 3);
        due("one has none", 0, x.move(0));
        due("one has none", 9, x.move(2));
        x = CHECK.senate("district a mood 1;member a for a face 5 at 0 0;");
        due("fewer than two", NONE, x.move(0));
        x = CHECK.senate("district a mood 1;member a for a face 5;member b for a face 4;member c for a face 4 at 0 0;");
        due("like ones, the first two that can", 0, x.move(0));
        due("like ones, the first two that can", 2, x.move(1));
    }

    private static void settled() {
        FaceSenate x = CHECK.senate(TRIO);
        due("settled()", 5, x.settled());
        x = CHECK.senate("district a mood 1;member a for a face 5;look 5 - (face > 4);");
        due("settled(), never", NONE, x.settled());
        due("settled(), no look", 0, CHECK.senate("district a mood 1;member a for a face 5;").settled());
        x = CHECK.senate("district a mood 1;member a for a face 0;look 1 - face + (step > 59) * (face * 2 - 1);");
        due("settled() at 60", 60, x.settled());
        x = CHECK.senate("district a mood 1;member a for a face 0;look 1 - face + (step > 60) * (face * 2 - 1);");
        due("settled() at 61", NONE, x.settled());
        x = CHECK.senate("district a mood 1;member a for a face 5;tooth 100 of 1;");
        due("settled(), no toothaches", 0, x.settled());
    }

    private static void will() {
        FaceSenate x = CHECK.senate("district a mood 1;member a for a face 9;member b for a face 9;tooth 50 of 1;draw 3;");
        int[] wants = new int[61];
        FaceSenate y = CHECK.senate("district a mood 1;member a for a face 9;member b for a face 9;tooth 50 of 1;draw 3;");
        for (int n = 0; n <= 60; n++) {
            wants[n] = y.member(1, 0);
            y.step();
            due("will(1, " + n + ")", wants[n], x.will(1, n));
        }
        due("will(1, 61)", NONE, x.will(1, 61));
        due("will(1, -1)", NONE, x.will(1, -1));
        due("will(2, 0)", NONE, x.will(2, 0));
        due("will(-1, 0)", NONE, x.will(-1, 0));
        due("nothing is done", 3, x.about(6));
        x = CHECK.senate("district a mood 1;member a for a face 9;tooth 100 of 2;");
        due("will(0, 3)", 3, x.will(0, 3));
        due("will(0, 60)", 0, x.will(0, 60));
    }

    private static void ahead() {
        FaceSenate x = CHECK.senate(TRIO + "tooth 100 of 9;");
        int[] wants = {18, 12, 8, 6, 4, 3, 3};
        for (int n = 0; n < wants.length; n++) {
            due("ahead(" + n + ")", wants[n], x.ahead(n));
        }
        due("ahead(60)", 3, x.ahead(60));
        due("ahead(61)", NONE, x.ahead(61));
        due("ahead(-1)", NONE, x.ahead(-1));
        x = CHECK.senate("district a mood 1;member a for a face 9;look step % 10;");
        due("ahead(60)", 9, x.ahead(60));
        x.step();
        due("ahead(60) behind a STEP", 0, x.ahead(60));
    }

    private static void alike() {
        due("alike()", NONE, CHECK.senate(TRIO).alike());
        due("alike() of one", 0, CHECK.senate("district a mood 1;member a for a face 9;").alike());
        String two = "district a mood 1;member a for a face 9;member b for a face 7 stoic 1;";
        due("alike() of two", NONE, CHECK.senate(two).alike());
        due("alike() behind two", 2, CHECK.senate(two + "look face + stoic;").alike());
        due("alike() at 60", 60, CHECK.senate(two + "look face + stoic * (step > 57);").alike());
        due("alike() at 61", NONE, CHECK.senate(two + "look face + stoic * (step > 58);").alike());
        due("alike() of none", NONE, new FaceSenate().alike());
    }

    private static void unrest() {
        FaceSenate x = CHECK.senate(TRIO + "tooth 100 of 9;");
        int[] wants = {0, 2, 4, 5, 6, 7, 7};
        for (int n = 0; n < wants.length; n++) {
            due("unrest(" + n + ")", wants[n], x.unrest(n));
        }
        due("unrest(60)", 7, x.unrest(60));
        due("unrest(61)", NONE, x.unrest(61));
        due("unrest(-1)", NONE, x.unrest(-1));
    }

    private static void sways() {
        // A line of four; each becomes the greatest that comes to him in turn.
        FaceSenate x = CHECK.senate("hall 4 by 1;district a mood 1;member a for a face 0 at 0 0;member b for a face 0 at 1 0;"
                + "member c for a face 0 at 2 0;member d for a face 0 at 3 0;look face + near;");
        due("sways(0, 1, 0)", 1, x.sways(0, 1, 0));
        due("sways(0, 1, 1)", 3, x.sways(0, 1, 1));
        due("sways(0, 1, 2)", 7, x.sways(0, 1, 2));
        due("sways(0, 1, 20)", 15, x.sways(0, 1, 20));
        due("sways(0, 0, 20)", 0, x.sways(0, 0, 20));
        due("sways(0, 1, 21)", NONE, x.sways(0, 1, 21));
        due("sways(0, 1, -1)", NONE, x.sways(0, 1, -1));
        due("sways(0, 10, 1)", NONE, x.sways(0, 10, 1));
        due("sways(0, -1, 1)", NONE, x.sways(0, -1, 1));
        due("sways(4, 1, 1)", NONE, x.sways(4, 1, 1));
        due("sways(-1, 1, 1)", NONE, x.sways(-1, 1, 1));
        due("nothing is done", 0, x.report());
    }

    private static void brightest() {
        FaceSenate x = CHECK.senate("hall 2 by 2;district a mood 1;member a for a face 1 at 1 1;light row * 3 + column;");
        due("brightest()", 2, x.brightest());
        x.unseat(0);
        due("brightest()", 3, x.brightest());
        x = CHECK.senate("hall 2 by 1;district a mood 1;member a for a face 1 at 0 0;light 0 - column;");
        due("all dark", 1, x.brightest());
        x = CHECK.senate("hall 1 by 1;district a mood 1;member a for a face 1 at 0 0;");
        due("none is empty", NONE, x.brightest());
        x = CHECK.senate("hall 4 by 1;light (step + column) % 4;");
        due("brightest()", 3, x.brightest());
        x.step();
        due("brightest() behind a STEP", 2, x.brightest());
    }

    private static void parties() {
        FaceSenate x = CHECK.senate(TRIO);
        int[][] want = {{27, 7}, {21, 7}, {27, 6}};
        for (int n = 1; n <= 3; n++) {
            due("parties(" + n + ", 0)", want[n - 1][0], x.parties(n, 0));
            due("parties(" + n + ", 1)", want[n - 1][1], x.parties(n, 1));
        }
        due("parties(0, 0)", NONE, x.parties(0, 0));
        due("parties(4, 0)", NONE, x.parties(4, 0));
        due("parties(1, 2)", NONE, x.parties(1, 2));
        due("parties(1, -1)", NONE, x.parties(1, -1));
        due("nothing is done", 0, x.about(4));
        x = CHECK.senate("district a mood 1;member a for a face 5;look face - news;");
        due("the second one takes it all", 0, x.parties(2, 0));
        due("the first one's NEWS", 0, x.parties(2, 1));
        x = CHECK.senate("district a mood 1;member a for a face 5;look (news = 3) * 9;");
        due("only the last NEWS counts", 9, x.parties(3, 0));
        due("of like ones the least", 0, x.parties(3, 1));
        due("only the last NEWS counts", 0, x.parties(2, 0));
        due("alone", 3, x.parties(1, 1));
        // What NEWS do hangs on the step: they are heard in the first and the third one only.
        x = CHECK.senate("district a mood 1;member a for a face 1;look face + news % 5 * (step % 2 = 0) - (step = 1) * 3;");
        due("by the step", 2, x.parties(2, 0));
        due("by the step", 4, x.parties(2, 1));
        due("by the step", 6, x.parties(3, 0));
        due("by the step", 4, x.parties(3, 1));
    }

    private static void least() {
        FaceSenate x = CHECK.senate(TRIO);
        int[][] want = {{Integer.MIN_VALUE, 0}, {12, 0}, {13, 1}, {15, 1}, {16, 2}, {19, 3}, {27, 7}, {28, NONE},
            {Integer.MAX_VALUE, NONE}};
        for (int[] w : want) {
            due("least(" + w[0] + ", 1)", w[1], x.least(w[0], 1));
        }
        // With NEWS 5 x is 8, 9, y 7, 8, z 9, 9; with 4 x is 7, 9, y 6, 6, z 9, 9.
        due("least(26, 2)", 5, x.least(26, 2));
        due("least(24, 2)", 4, x.least(24, 2));
        due("least(0, 0)", NONE, x.least(0, 0));
        due("least(0, 21)", NONE, x.least(0, 21));
        due("least(0, 20)", 0, x.least(0, 20));
        x.news(9);
        due("the NEWS that there are don't count", 0, x.least(12, 1));
        due("nothing is done", 9, x.about(4));
    }

    private static void best() {
        FaceSenate x = CHECK.senate(TRIO);
        due("best(0)", 0, x.best(0));
        due("best(1)", 2, x.best(1));
        x.news(9);
        due("best(0)", 0, x.best(0));
        due("best(1)", 2, x.best(1));
        due("best(21)", NONE, x.best(21));
        due("best(-1)", NONE, x.best(-1));
        x = CHECK.senate("district a mood 9;member a for a face 0;look face * (news = 7) + (news = 7);");
        due("best(20)", 7, x.best(20));
        due("best(3)", 7, x.best(3));
    }

    private static void odds() {
        FaceSenate x = CHECK.senate("district a mood 1;member a for a face 1;tooth 25 of 1;");
        int[][] want = {{1, 1}, {3, 4}, {9, 16}, {27, 64}, {81, 256}};
        for (int n = 0; n <= 4; n++) {
            due("odds(" + n + ", 0)", want[n][0], x.odds(n, 0));
            due("odds(" + n + ", 1)", want[n][1], x.odds(n, 1));
        }
        due("odds(5, 0)", NONE, x.odds(5, 0));
        due("odds(-1, 0)", NONE, x.odds(-1, 0));
        due("odds(1, 2)", NONE, x.odds(1, 2));
        due("odds(1, -1)", NONE, x.odds(1, -1));
        x = CHECK.senate("district a mood 1;member a for a face 1;member b for a face 1;tooth 1 of 1;");
        due("odds(2, 0)", 99 * 99 * 99 * 99, x.odds(2, 0));
        due("odds(2, 1)", 100000000, x.odds(2, 1));
        due("odds(3, 1)", NONE, x.odds(3, 1));
        x = CHECK.senate("district a mood 1;member a for a face 1;tooth 100 of 1;");
        due("odds(1, 0)", 0, x.odds(1, 0));
        due("odds(1, 1)", 1, x.odds(1, 1));
        due("odds(0, 0)", 1, x.odds(0, 0));
        x = CHECK.senate("tooth 100 of 1;");
        due("nobody there", 1, x.odds(4, 0));
        x = CHECK.senate("district a mood 1;member a for a face 1;");
        due("no tooth told", 1, x.odds(4, 0));
        due("no tooth told", 1, x.odds(4, 1));
        x = CHECK.senate(SEVEN);
        due("seven, no STEP", 1, x.odds(0, 1));
        due("seven", NONE, x.odds(1, 0));
    }

    private static void moved() {
        FaceSenate x = CHECK.senate(TRIO + "tooth 100 of 9;");
        due("moved(0)", 0, x.moved(0));
        due("moved(1)", 6, x.moved(1));
        due("moved(2)", 1, x.moved(2));
        x.news(3);
        due("moved(0)", 1, x.moved(0));
        due("moved(1)", 2, x.moved(1));
        due("moved(2)", 4, x.moved(2));
        due("moved(3)", NONE, x.moved(3));
        due("moved(-1)", NONE, x.moved(-1));
    }

    private static void key() {
        FaceSenate x = CHECK.senate(TRIO);
        due("key()", 2, x.key());
        x.news(9);
        // x 0 + 9 .. all come to 9 but y, who comes to 5.
        due("key()", 1, x.key());
        x = CHECK.senate(SEVEN + "look 1;");
        due("like ones: the first", 0, x.key());
        due("none", NONE, new FaceSenate().key());
        // But for the one in the middle both others see nothing.
        x = CHECK.senate("hall 3 by 1;district a mood 1;member a for a face 9 at 0 0;member b for a face 5 at 1 0;"
                + "member c for a face 9 at 2 0;look near;");
        due("in the middle", 1, x.key());
    }

    private static void looks() {
        FaceSenate x = CHECK.senate(TRIO);
        due("fits(0)", 1023, x.fits(0));
        due("looks(1, 0, 6, true)", 0, x.looks(1, 0, 6, true));
        due("fits(0)", 1016, x.fits(0));
        due("looks(1, 1, 8, false)", 1, x.looks(1, 1, 8, false));
        due("fits(0)", 56, x.fits(0));
        due("looks(0, 0, 4, false)", 2, x.looks(0, 0, 4, false));
        due("fits(0)", 56, x.fits(0));
        due("looks(6, 1, 9, true)", 3, x.looks(6, 1, 9, true));
        // y: 6 and six times NEWS - 4: 5 brings him to 9, 4 leaves him at 6.
        due("fits(0)", 32, x.fits(0));
        due("looks(0, 0, 4, true)", 4, x.looks(0, 0, 4, true));
        due("fits(0)", 0, x.fits(0));
        due("untell(4)", true, x.untell(4));
        due("fits(0)", 32, x.fits(0));
        x.step();
        // By what is now y is 2, below 8 behind the next STEP by any NEWS, and 9 behind six by 6 and more.
        due("fits(0) by what is now", 960, x.fits(0));
        due("looks(7, 0, 0, true)", NONE, x.looks(7, 0, 0, true));
        due("looks(-1, 0, 0, true)", NONE, x.looks(-1, 0, 0, true));
        due("looks(0, 3, 0, true)", NONE, x.looks(0, 3, 0, true));
        due("looks(0, -1, 0, true)", NONE, x.looks(0, -1, 0, true));
        due("looks(0, 0, 10, true)", NONE, x.looks(0, 0, 10, true));
        due("looks(0, 0, -1, true)", NONE, x.looks(0, 0, -1, true));
        due("LOOKS", 5, x.about(9));
        for (int i = 5; i < 30; i++) {
            due("looks", i, x.looks(0, 0, 0, true));
        }
        due("looks, there are 30", NONE, x.looks(0, 0, 0, true));
        due("LOOKS", 30, x.about(9));
    }

    private static void looksByTime() {
        FaceSenate x = CHECK.senate(TRIO);
        x.later(5);
        x.looks(1, 0, 6, true);
        x.later(5);
        x.looks(1, 1, 8, false);
        x.later(5);
        due("untell(0)", true, x.untell(0));
        due("untell(0)", false, x.untell(0));
        due("untell(2)", false, x.untell(2));
        due("untell(-1)", false, x.untell(-1));
        int[][] want = {{Integer.MIN_VALUE, 1023}, {4, 1023}, {5, 1016}, {9, 1016}, {10, 56}, {14, 56}, {15, 63},
            {Integer.MAX_VALUE, 63}};
        for (int[] w : want) {
            due("fits(" + w[0] + ")", w[1], x.fits(w[0]));
        }
        x.looks(0, 0, 9, true);
        due("fits(15)", 0, x.fits(15));
        x.untell(2);
        due("told and untold at one time", 63, x.fits(15));
        due("LOOKS, untold ones too", 3, x.about(9));
    }

    private static void later() {
        FaceSenate x = new FaceSenate();
        due("later(0)", 0, x.later(0));
        due("later(1000)", 1000, x.later(1000));
        due("later(1001)", NONE, x.later(1001));
        due("later(-1)", NONE, x.later(-1));
        for (int i = 2; i < 100; i++) {
            x.later(1000);
        }
        due("later(999)", 99999, x.later(999));
        due("later(2)", NONE, x.later(2));
        due("later(1)", 100000, x.later(1));
        due("later(1)", NONE, x.later(1));
        due("TIME", 100000, x.about(10));
    }

    private static void ask() {
        FaceSenate x = CHECK.senate(TRIO);
        due("ask(1, 0, 0)", 1, x.ask(1, 0, 0));
        due("ask(1, 1, 0)", 3, x.ask(1, 1, 0));
        due("ask(0, 0, 0)", 0, x.ask(0, 0, 0));
        due("ask(0, 1, 0)", 10, x.ask(0, 1, 0));
        x.looks(1, 0, 6, true);
        x.looks(1, 1, 8, false);
        due("ask(1, 0, 0)", 0, x.ask(1, 0, 0));
        due("ask(1, 1, 0)", 1, x.ask(1, 1, 0));
        due("ask(1, 1, -1), as known before", 3, x.ask(1, 1, -1));
        due("ask(7, 0, 0)", NONE, x.ask(7, 0, 0));
        due("ask(-1, 0, 0)", NONE, x.ask(-1, 0, 0));
        due("ask(1, 2, 0)", NONE, x.ask(1, 2, 0));
        due("ask(1, -1, 0)", NONE, x.ask(1, -1, 0));
        x.looks(0, 0, 9, true);
        due("none FITS", NONE, x.ask(1, 0, 0));
        due("none FITS", NONE, x.ask(1, 1, 0));
        due("no MEMBERS", NONE, new FaceSenate().ask(0, 0, 0));
    }

    private static void images() {
        FaceSenate x = CHECK.senate(TRIO + "draw 5;");
        due("back(0)", NONE, x.back(0));
        due("image(0)", 0, x.image(0));
        x.news(3);
        x.step();
        x.sit(2, 2);
        int seed = x.about(6);
        due("image(2)", 1, x.image(2));
        x.step();
        x.undo();
        due("back(1)", NONE, x.back(1));
        due("ACTS", 3, x.about(7));
        due("back(0)", 0, x.back(0));
        due("to undo", 0, x.about(7));
        due("to redo", 0, x.about(8));
        due("undo()", false, x.undo());
        due("report()", 18, x.report());
        due("NEWS", 0, x.about(4));
        due("SEED", 5, x.about(6));
        due("SEAT", NONE, x.member(2, 1));
        due("back(2)", 1, x.back(2));
        due("NEWS", 3, x.about(4));
        due("SEED", seed, x.about(6));
        due("SEAT", 2, x.member(2, 1));
        due("FACE", 6, x.member(0, 0));
        x.news(1);
        due("gone on from: undo()", true, x.undo());
        due("image(3)", NONE, x.image(3));
        due("image(-1)", NONE, x.image(-1));
        due("back(3)", NONE, x.back(3));
        due("back(-1)", NONE, x.back(-1));
        due("image(0), again", 1, x.image(0));
        due("back(0)", 1, x.back(0));
        due("SEAT", 2, x.member(2, 1));
    }

    private static void about() {
        FaceSenate x = CHECK.senate(TRIO);
        x.news(3);
        x.step();
        x.step();
        x.undo();
        x.chain(0, 1);
        x.looks(0, 0, 0, true);
        x.later(9);
        x.feed(1, 2, 3, 4, 5);
        int[] want = {3, 2, 3, 1, 3, 1, 397, 2, 1, 1, 9, 20, 6, 2};
        for (int what = 0; what < want.length; what++) {
            due("about(" + what + ")", want[what], x.about(what));
        }
        due("about(14)", NONE, x.about(14));
        due("about(-1)", NONE, x.about(-1));
    }
}
