/** The boundaries of what is so (promises 6 to 10), of ACTS (11 to 17) and of images (44, 45). */
final class ActBoundaries {
    private static final int NONE = FaceSenate.NONE;

    private final Book book;

    ActBoundaries(Book book) {
        this.book = book;
    }

    void hold() {
        member();
        district();
        seat();
        report();
        step();
        news();
        sit();
        change();
        unseat();
        undoAndRedo();
        kept();
        image();
        back();
    }

    private void member() {
        book.promise(6);
        book.says("1: SEAT (NONE)");
        FaceSenate x = book.senate(Halls.TRIO);
        book.due("SEAT 0", 0, x.member(0, 1));
        book.due("no SEAT", NONE, x.member(2, 1));
        book.says("4: who sit BESIDE him, as bits, 5: their FACES together, 6: how BRIGHT he sits;");
        book.due("one", 2, x.member(0, 4));
        book.due("his FACE", 6, x.member(0, 5));
        book.due("nobody", 0, x.member(2, 4));
        book.due("nobody's FACE", 0, x.member(2, 5));
        book.due("not seated", 0, x.member(2, 6));
        x.step();
        book.due("BRIGHT behind a STEP", 4, x.member(1, 6));
        book.says("-2 if there is none such, or for another what.");
        for (int what : Book.outside(0, 6)) {
            book.due("member(0, " + what + ")", -2, x.member(0, what));
        }
        for (int m : Book.outside(0, 2)) {
            for (int what = -1; what <= 7; what++) {
                book.due("member(" + m + ", " + what + ")", -2, x.member(m, what));
            }
        }
        x = book.senate(Halls.SEVEN);
        book.due("the seventh", 7, x.member(6, 0));
        book.due("an eighth", -2, x.member(7, 0));
    }

    private void district() {
        book.promise(7);
        book.says("NONE if there is none such, or for another what.");
        FaceSenate x = book.senate(Halls.TRIO);
        for (int what : Book.outside(0, 3)) {
            book.due("district(0, " + what + ")", NONE, x.district(0, what));
        }
        for (int d : Book.outside(0, 1)) {
            for (int what = 0; what <= 3; what++) {
                book.due("district(" + d + ", " + what + ")", NONE, x.district(d, what));
            }
        }
        x = book.senate("district a mood 9;district b mood 9;district c mood 9;district d mood 0;member m for d face 9;");
        book.due("the fourth", 0, x.district(3, 0));
        book.due("a fifth", NONE, x.district(4, 0));
        book.says("1: its MEMBERS, as bits, 2: their FACES together, 3: OFF;");
        for (int what = 1; what <= 3; what++) {
            book.due("without MEMBERS, " + what, 0, x.district(0, what));
        }
        book.due("its MEMBERS", 1, x.district(3, 1));
        book.due("OFF, above", 9, x.district(3, 3));
        x = book.senate("district a mood 9;member a for a face 0;member b for a face 0;");
        book.due("OFF, below", 18, x.district(0, 3));
        book.due("all seven", 127, book.senate(Halls.SEVEN).district(0, 1));
    }

    private void seat() {
        book.promise(8);
        book.says("what 0: who sits there (NONE)");
        FaceSenate x = book.senate(Halls.TRIO);
        book.due("seat(0, 0)", 0, x.seat(0, 0));
        book.due("seat(2, 0)", NONE, x.seat(2, 0));
        book.says("-2 if there is none such, or for another what.");
        for (int what : Book.outside(0, 1)) {
            book.due("seat(0, " + what + ")", -2, x.seat(0, what));
        }
        for (int seat : Book.outside(0, 2)) {
            book.due("seat(" + seat + ", 0)", -2, x.seat(seat, 0));
            book.due("seat(" + seat + ", 1)", -2, x.seat(seat, 1));
        }
        x = new FaceSenate();
        book.due("the last of 16", 5, x.seat(15, 1));
        book.due("one more", -2, x.seat(16, 1));
    }

    private void report() {
        book.promise(9);
        book.says("The REPORT.");
        book.due("without MEMBERS", 0, new FaceSenate().report());
        StringBuilder nines = new StringBuilder("district a mood 0;");
        for (char m = 'a'; m <= 'g'; m++) {
            nines.append("member ").append(m).append(" for a face 9;");
        }
        FaceSenate x = book.senate(nines.toString());
        book.due("the most", 63, x.report());
        book.promise(10);
        book.says("OFF.");
        book.due("the most", 63, x.off());
        book.due("without MEMBERS", 0, new FaceSenate().off());
        x = book.senate("district a mood 4;district b mood 4;member a for a face 9;member b for b face 0;");
        book.due("one above, one below: both count", 9, x.off());
        book.terms();
        book.says("OFF of a DISTRICT: FACES of its MEMBERS together less its mood as often as there are, whatever its sign; "
                + "OFF: of all together.");
        book.due("above", 5, x.district(0, 3));
        book.due("below", 4, x.district(1, 3));
    }

    private void step() {
        book.promise(11);
        book.says("who WINCE, as bits (also those whose FACE was 0);");
        FaceSenate x = book.senate("district a mood 1;member a for a face 0;member b for a face 9;tooth 100 of 9;");
        book.due("step()", 3, x.step());
        book.due("step(), both are 0", 3, x.step());
        book.due("without MEMBERS", 0, new FaceSenate().step());
        book.says("NONE, doing nothing, behind 999 of them. (An ACT.)");
        x = lateOne();
        book.due("the 999th", 0, x.step());
        book.due("step", 999, x.about(5));
        book.due("ACTS", 40, x.about(7));
        book.due("one more", NONE, x.step());
        Twins.refused(book, "step()", NONE, ActBoundaries::lastOne, FaceSenate::step);
        x.undo();
        book.due("the 999th, again", 0, x.step());
        book.due("and no more", NONE, x.step());
        book.due("no ACT was made of it, redo()", false, x.redo());
        x.undo();
        book.due("redo() to the 999th", true, x.redo());
        book.due("step", 999, x.about(5));
        book.terms();
        book.says("What lies ahead goes on as told beyond the last one that can be done, too.");
        book.due("ahead(1): step 999 tells 9", 9, x.ahead(1));
        book.due("ahead(2): step 1000 tells 0", 0, x.ahead(2));
        book.due("ahead(60): step 1058 tells 8", 8, x.ahead(60));
        book.due("will(0, 2)", 0, x.will(0, 2));
        book.due("unrest(60)", 60, x.unrest(60));
        book.due("settled()", NONE, x.settled());
        book.due("moved(0)", 1, x.moved(0));
        book.due("parties(2, 0)", 0, x.parties(2, 0));
        book.due("least(8, 20): step 1018", 0, x.least(8, 20));
        book.due("place(0, 1)", 9, x.place(0, 1));
        book.due("step", 999, x.about(5));
    }

    /** 998 STEPS are done: more calls than an object is used for, for want of another way there. */
    private static FaceSenate lateOne() {
        FaceSenate x = new FaceSenate();
        Check.tell(x, Halls.ONE + "look step % 10;");
        x.senate();
        for (int i = 0; i < 998; i++) {
            x.step();
        }
        return x;
    }

    private static FaceSenate lastOne() {
        FaceSenate x = lateOne();
        x.step();
        x.news(3);
        x.undo();
        return x;
    }

    private void news() {
        book.promise(12);
        book.says("NEWS (0 .. 9) are let in: which there were;");
        FaceSenate x = book.senate(Halls.ONE);
        book.due("news(9)", 0, x.news(9));
        book.due("news(0)", 9, x.news(0));
        book.due("ACTS", 2, x.about(7));
        book.says("NONE, doing nothing, if they are the same, or can't be. (An ACT.)");
        book.due("the same, at first", NONE, book.senate(Halls.ONE).news(0));
        Twins.refused(book, "news(4), the same", NONE, y -> y.news(4));
        for (int news : Book.outside(0, 9)) {
            Twins.refused(book, "news(" + news + ")", NONE, y -> y.news(news));
        }
    }

    private void sit() {
        book.promise(13);
        book.says("He is seated on an empty SEAT: where he sat (-2: nowhere);");
        FaceSenate x = book.senate(Halls.TRIO);
        book.due("sit(2, 2)", -2, x.sit(2, 2));
        x.unseat(0);
        book.due("sit(2, 0)", 2, x.sit(2, 0));
        book.due("sit(2, 2), from the first SEAT", 0, x.sit(2, 2));
        book.due("where he sat is empty", NONE, x.seat(0, 0));
        book.due("ACTS", 4, x.about(7));
        x = book.senate("district a mood 1;member a for a face 5;");
        book.due("sit(0, 15), the last SEAT", -2, x.sit(0, 15));
        book.says("NONE, doing nothing, if it is not empty, or one can't be. (An ACT.)");
        // MEMBER 3 sits on 0, 1 on 1, 2 on 4, 0 has no SEAT; of 3 by 2.
        int[][] refused = {{0, 0}, {0, 1}, {3, 0}, {2, 1}, {0, 6}, {0, -1}, {4, 2}, {-1, 2}, {7, 2}, {0, 16},
            {0, Integer.MIN_VALUE}, {0, Integer.MAX_VALUE}, {Integer.MIN_VALUE, 2}, {Integer.MAX_VALUE, 2}};
        for (int[] r : refused) {
            Twins.refused(book, "sit(" + r[0] + ", " + r[1] + ")", NONE, y -> y.sit(r[0], r[1]));
        }
        book.due("another one can", -2, Twins.busy().sit(0, 5));
    }

    private void change() {
        book.promise(14);
        book.says("Two change places: true;");
        FaceSenate x = Twins.busy();
        book.due("both have one", true, x.change(1, 2));
        book.due("SEAT", 4, x.member(1, 1));
        book.due("SEAT", 1, x.member(2, 1));
        book.due("one has none", true, x.change(0, 3));
        book.due("SEAT", 0, x.member(0, 1));
        book.due("SEAT", NONE, x.member(3, 1));
        book.due("one has none, the other way round", true, x.change(0, 3));
        book.due("SEAT", NONE, x.member(0, 1));
        book.says("false, doing nothing, if both have none, both are one, or one can't be. (An ACT.)");
        int[][] refused = {{1, 1}, {0, 0}, {1, 4}, {4, 1}, {-1, 1}, {1, -1}, {4, 4}, {7, 1}, {Integer.MIN_VALUE, 1},
            {1, Integer.MAX_VALUE}};
        for (int[] r : refused) {
            Twins.refused(book, "change(" + r[0] + ", " + r[1] + ")", 0, y -> y.change(r[0], r[1]) ? 1 : 0);
        }
        Twins.refused(book, "both have none", 0, ActBoundaries::twoUnseated, y -> y.change(0, 1) ? 1 : 0);
        book.terms();
        book.says("a MEMBER is seated on an empty SEAT; two change places (one of them may have none); one is unseated.");
        x = twoUnseated();
        book.due("there are other two", true, x.change(0, 2));
        book.due("undo()", true, x.undo());
        book.due("SEAT", NONE, x.member(0, 1));
        book.due("SEAT", 4, x.member(2, 1));
    }

    private static FaceSenate twoUnseated() {
        FaceSenate x = Twins.busy();
        x.unseat(1);
        return x;
    }

    private void unseat() {
        book.promise(15);
        book.says("He is unseated: where he sat;");
        FaceSenate x = book.senate(Halls.TRIO);
        book.due("unseat(0), from the first SEAT", 0, x.unseat(0));
        book.due("SEAT", NONE, x.member(0, 1));
        book.due("ACTS", 1, x.about(7));
        book.says("NONE, doing nothing, if he has no SEAT, or there is none such. (An ACT.)");
        for (int m : new int[] {0, 4, -1, 7, Integer.MIN_VALUE, Integer.MAX_VALUE}) {
            Twins.refused(book, "unseat(" + m + ")", NONE, y -> y.unseat(m));
        }
        book.due("twice", NONE, x.unseat(0));
    }

    private void undoAndRedo() {
        book.promise(16);
        book.says("UNDO: true; false if there is none.");
        FaceSenate x = book.senate(Halls.TRIO);
        book.due("none yet", false, x.undo());
        x.news(1);
        book.due("one", true, x.undo());
        book.due("no more", false, x.undo());
        book.due("NEWS", 0, x.about(4));
        Twins.refused(book, "undo()", 0, ActBoundaries::allUndone, y -> y.undo() ? 1 : 0);
        book.promise(17);
        book.says("REDO: true; false if there is none.");
        book.due("one", true, x.redo());
        book.due("no more", false, x.redo());
        book.due("NEWS", 1, x.about(4));
        book.due("none yet", false, book.senate(Halls.TRIO).redo());
        Twins.refused(book, "redo()", 0, ActBoundaries::allRedone, y -> y.redo() ? 1 : 0);
        book.terms();
        book.says("UNDO takes back the latest ACT that was not, REDO does that again which was taken back last (till another "
                + "ACT);");
        x = Twins.busy();
        book.due("two to redo", 2, x.about(8));
        x.news(4);
        x.sit(0, 0);
        x.change(1, 1);
        x.unseat(0);
        x.undo();
        book.due("what was refused is no ACT", 3, x.about(8));
        book.due("redo()", true, x.redo());
        x.later(1);
        x.looks(0, 0, 0, true);
        x.chain(1, 2);
        x.image(1);
        x.end(0);
        book.due("what is no ACT does not count", 2, x.about(8));
        x.news(5);
        book.due("another ACT", 0, x.about(8));
        book.due("redo()", false, x.redo());
    }

    private static FaceSenate allUndone() {
        FaceSenate x = Twins.busy();
        for (int i = 0; i < 40; i++) {
            x.undo();
        }
        return x;
    }

    private static FaceSenate allRedone() {
        FaceSenate x = Twins.busy();
        for (int i = 0; i < 40; i++) {
            x.redo();
        }
        return x;
    }

    private void kept() {
        book.says("40 at most are kept, the oldest go.");
        for (int made : new int[] {39, 40, 41, 42, 80, 81, 95}) {
            FaceSenate x = book.senate(Halls.ONE);
            for (int i = 1; i <= made; i++) {
                x.news(i % 10);
            }
            int kept = Math.min(made, 40);
            book.due("made " + made + ", kept", kept, x.about(7));
            for (int i = made - 1; i >= made - kept; i--) {
                book.due("undo()", true, x.undo());
                book.due("NEWS", i % 10, x.about(4));
            }
            book.due("undo(), the oldest are gone", false, x.undo());
            book.due("to undo", 0, x.about(7));
            book.due("to redo", kept, x.about(8));
            for (int i = made - kept + 1; i <= made; i++) {
                book.due("redo()", true, x.redo());
                book.due("NEWS", i % 10, x.about(4));
            }
            book.due("redo()", false, x.redo());
        }
        // Behind undone ones: 40 kept, 10 taken back, 15 others made, the oldest five go.
        FaceSenate x = book.senate(Halls.ONE);
        for (int i = 1; i <= 40; i++) {
            x.news(i % 10);
        }
        for (int i = 0; i < 10; i++) {
            x.undo();
        }
        for (int i = 1; i <= 15; i++) {
            x.news(i % 10);
        }
        book.due("kept", 40, x.about(7));
        for (int i = 0; i < 40; i++) {
            x.undo();
        }
        book.due("NEWS, behind the fifth", 5, x.about(4));
        book.due("undo()", false, x.undo());
        // The oldest go with all that they held: FACES and SEATS, too.
        x = book.senate(Halls.TRIO);
        x.unseat(0);
        x.step();
        for (int i = 1; i <= 40; i++) {
            x.news(i % 10);
        }
        for (int i = 0; i < 40; i++) {
            x.undo();
        }
        book.due("the STEP stays", 1, x.about(5));
        book.due("he is unseated", NONE, x.member(0, 1));
        book.due("NEWS", 0, x.about(4));
        x = book.senate(Halls.SEVEN + "look face + news;draw 123;");
        changeAll(x);
        for (int i = 0; i < 9; i++) {
            x.undo();
        }
        allSeven(x, "undone");
    }

    /** All that seven have comes back, by UNDO and out of a BOX, the first one's and the last one's, too. */
    private void allSeven(FaceSenate x, String how) {
        for (int m = 0; m < 7; m++) {
            book.due(how + ", FACE of " + m, m + 1, x.member(m, 0));
        }
        int[] seats = {0, 1, 2, 4, 6, 8, 9};
        for (int m = 0; m < 7; m++) {
            book.due(how + ", SEAT of " + m, seats[m], x.member(m, 1));
        }
        book.due(how + ", NEWS", 0, x.about(4));
        book.due(how + ", step", 0, x.about(5));
        book.due(how + ", SEED", 123, x.about(6));
    }

    private void changeAll(FaceSenate x) {
        x.news(8);
        x.step();
        x.sit(6, 15);
        x.sit(0, 3);
        x.change(1, 5);
        x.unseat(2);
        x.step();
        x.sit(2, 14);
        x.change(3, 4);
        book.due("REPORT", 63, x.report());
    }

    private void image() {
        book.promise(44);
        book.says("FACES, SEATS, NEWS, the step, the SEED are kept in a BOX 0 .. 2: the step;");
        FaceSenate x = book.senate(Halls.TRIO);
        book.due("image(0)", 0, x.image(0));
        x.news(1);
        x.step();
        book.due("image(1)", 1, x.image(1));
        x.step();
        book.due("image(2)", 2, x.image(2));
        for (int box = 0; box < 3; box++) {
            book.due("back(" + box + ")", box, x.back(box));
            book.due("NEWS", Math.min(box, 1), x.about(4));
        }
        x.step();
        book.due("image(0), full", 3, x.image(0));
        x.step();
        book.due("the later one is kept", 3, x.back(0));
        for (int box = 0; box < 3; box++) {
            x = book.senate(Halls.SEVEN + "look face + news;draw 123;");
            x.image(box);
            changeAll(x);
            x.image((box + 1) % 3);
            x.image((box + 2) % 3);
            x.back(box);
            allSeven(x, "kept in " + box);
        }
        book.says("NONE if there is none such.");
        for (int box : Book.outside(0, 2)) {
            Twins.refused(book, "image(" + box + ")", NONE, y -> y.image(box));
        }
    }

    private void back() {
        book.promise(45);
        book.says("All is as it was kept (no ACTS are kept then): the step;");
        FaceSenate x = Twins.busy();
        book.due("ACTS to undo", 3, x.about(7));
        book.due("ACTS to redo", 2, x.about(8));
        book.due("back(0)", 0, x.back(0));
        book.due("ACTS to undo", 0, x.about(7));
        book.due("ACTS to redo", 0, x.about(8));
        book.due("undo()", false, x.undo());
        book.due("redo()", false, x.redo());
        book.due("NEWS", 0, x.about(4));
        book.due("SEED", 7, x.about(6));
        book.due("SEAT", 0, x.member(0, 1));
        book.due("SEAT", NONE, x.member(3, 1));
        book.due("REPORT", 24, x.report());
        book.due("LOOKS stay", 2, x.about(9));
        book.due("the TIME stays", 10, x.about(10));
        book.due("what lies there stays", 2, x.about(13));
        x.news(9);
        book.due("the BOX stays: back(0)", 0, x.back(0));
        book.due("NEWS", 0, x.about(4));
        book.says("NONE, doing nothing, if nothing was.");
        Twins.refused(book, "back(1), empty", NONE, y -> y.back(1));
        for (int box : Book.outside(0, 2)) {
            Twins.refused(book, "back(" + box + ")", NONE, y -> y.back(box));
        }
    }
}
