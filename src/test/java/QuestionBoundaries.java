import java.util.function.Consumer;

/** The boundaries of the questions, promises 18 to 38 and 46. */
final class QuestionBoundaries {
    private static final int NONE = FaceSenate.NONE;

    private final Book book;

    QuestionBoundaries(Book book) {
        this.book = book;
    }

    void hold() {
        nothingIsDone();
        noToothaches();
        stand();
        sample();
        samples();
        chain();
        chainLies();
        groups();
        place();
        move();
        settled();
        will();
        ahead();
        alike();
        unrest();
        sways();
        brightest();
        parties();
        turns();
        least();
        best();
        odds();
        moved();
        key();
        lies();
        about();
    }

    private void unmoved(String call, Consumer<FaceSenate> ask) {
        Twins.unmoved(book, call, ask);
    }

    private void nothingIsDone() {
        book.terms();
        book.says("(By what is now; nothing is done; no toothaches, if not told otherwise.");
        unmoved("what is so", x -> {
            x.member(1, 6);
            x.district(0, 3);
            x.seat(2, 1);
            x.report();
            x.off();
            x.about(12);
            x.fault(0);
            x.lies(0);
        });
        unmoved("stand", x -> x.stand(0, 0));
        unmoved("sample", x -> x.sample(2, 0));
        unmoved("samples", x -> x.samples(2));
        unmoved("groups", FaceSenate::groups);
        unmoved("place", x -> x.place(0, 0));
        unmoved("move", x -> x.move(0));
        unmoved("settled", FaceSenate::settled);
        unmoved("will", x -> x.will(0, 60));
        unmoved("ahead", x -> x.ahead(60));
        unmoved("alike", FaceSenate::alike);
        unmoved("unrest", x -> x.unrest(60));
        unmoved("sways", x -> x.sways(0, 9, 20));
        unmoved("brightest", FaceSenate::brightest);
        unmoved("parties", x -> x.parties(3, 0));
        unmoved("least", x -> x.least(99, 20));
        unmoved("best", x -> x.best(20));
        unmoved("odds", x -> x.odds(1, 0));
        unmoved("moved", x -> x.moved(0));
        unmoved("key", FaceSenate::key);
        unmoved("fits", x -> x.fits(10));
        unmoved("ask", x -> x.ask(6, 0, 10));
        FaceSenate x = book.senate(Halls.TRIO);
        book.due("by what is now", 12, x.ahead(1));
        x.news(3);
        book.due("by the NEWS that are now", 3 + 3 + 6 - 1 + 9, x.ahead(1));
    }

    private void noToothaches() {
        FaceSenate x = book.senate(Halls.TRIO + "tooth 100 of 9;");
        book.due("ahead(1)", 12, x.ahead(1));
        book.due("place(0, 1)", 12, x.place(0, 1));
        book.due("move(2)", 12, x.move(2));
        book.due("settled()", 5, x.settled());
        book.due("unrest(60)", 7, x.unrest(60));
        book.due("parties(1, 0)", 27, x.parties(1, 0));
        book.due("least(13, 1)", 1, x.least(13, 1));
        book.due("moved(1)", 6, x.moved(1));
        book.due("key()", 2, x.key());
        book.due("best(1)", 2, x.best(1));
        book.due("sways(0, 9, 1)", 1, x.sways(0, 9, 1));
        book.due("alike()", NONE, x.alike());
        x.looks(1, 0, 3, true);
        book.due("fits(0)", 1023, x.fits(0));
        book.due("ask(1, 1, 0)", 3, x.ask(1, 1, 0));
        book.due("will(0, 1), where they are told", 0, x.will(0, 1));
    }

    private void stand() {
        book.terms();
        book.says("STAND of a MEMBER: the FACE (0 .. 9) that he should have in his FACE's stead, so that OFF is least; of like "
                + "ones the least.");
        FaceSenate x = book.senate("district a mood 0;member a for a face 9;member b for a face 9;");
        book.due("0 at least", 0, x.stand(0, 0));
        book.due("OFF then", 9, x.stand(0, 1));
        x = book.senate("district a mood 9;member a for a face 0;member b for a face 0;");
        book.due("9 at most", 9, x.stand(0, 0));
        book.due("OFF then", 9, x.stand(0, 1));
        x = book.senate("district a mood 4;member a for a face 4;");
        book.due("his own", 4, x.stand(0, 0));
        book.due("OFF then", 0, x.stand(0, 1));
        book.promise(18);
        book.says("NONE if there is none such, or for another what.");
        x = book.senate(Halls.TRIO);
        for (int what : Book.outside(0, 1)) {
            book.due("stand(0, " + what + ")", NONE, x.stand(0, what));
        }
        for (int m : Book.outside(0, 2)) {
            book.due("stand(" + m + ", 0)", NONE, x.stand(m, 0));
            book.due("stand(" + m + ", 1)", NONE, x.stand(m, 1));
        }
    }

    private void sample() {
        book.terms();
        book.says("SAMPLE of n: n MEMBERS whose FACES together, times how many MEMBERS there are, are nearest to n times the "
                + "REPORT; of like ones the least set as bits.");
        FaceSenate x = book.senate("district a mood 1;member a for a face 5;member b for a face 1;");
        book.due("as far above as below", 1, x.sample(1, 0));
        x = book.senate("district a mood 1;member a for a face 1;member b for a face 5;");
        book.due("as far below as above", 1, x.sample(1, 0));
        x = book.senate("district a mood 1;member a for a face 4;member b for a face 4;member c for a face 4;");
        book.due("like ones", 1, x.sample(1, 0));
        book.due("like ones", 3, x.sample(2, 0));
        x = book.senate("district a mood 1;member a for a face 9;member b for a face 0;member c for a face 3;");
        book.due("the third is nearest", 4, x.sample(1, 0));
        book.promise(19);
        book.says("SAMPLE (n 1 .. 7) what 0: which, as bits, 1: their FACES together;");
        x = book.senate(Halls.SEVEN);
        book.due("sample(1, 0)", 8, x.sample(1, 0));
        book.due("sample(1, 1)", 4, x.sample(1, 1));
        book.due("sample(7, 0)", 127, x.sample(7, 0));
        book.due("sample(7, 1)", 28, x.sample(7, 1));
        book.says("NONE if there are not so many, or one can't be.");
        for (int n : Book.outside(1, 7)) {
            book.due("sample(" + n + ", 0)", NONE, x.sample(n, 0));
            book.due("sample(" + n + ", 1)", NONE, x.sample(n, 1));
        }
        for (int what : Book.outside(0, 1)) {
            book.due("sample(1, " + what + ")", NONE, x.sample(1, what));
        }
        x = book.senate(Halls.TRIO);
        book.due("all of them", 7, x.sample(3, 0));
        book.due("not so many", NONE, x.sample(4, 0));
        book.due("not so many", NONE, x.sample(7, 1));
        book.due("nobody", NONE, new FaceSenate().sample(1, 0));
    }

    private void samples() {
        book.promise(20);
        book.says("How many sets of n MEMBERS (1 .. 7) tell the same as all (their FACES times all of them are n times the "
                + "REPORT);");
        FaceSenate x = book.senate(Halls.SEVEN);
        book.due("samples(1)", 1, x.samples(1));
        book.due("samples(7)", 1, x.samples(7));
        x = book.senate(Halls.TRIO);
        book.due("samples(3), all", 1, x.samples(3));
        book.due("samples(4), there are not so many", 0, x.samples(4));
        book.due("samples(7), there are not so many", 0, x.samples(7));
        x = book.senate("district a mood 1;member a for a face 2;member b for a face 5;");
        book.due("samples(1), none tells it", 0, x.samples(1));
        book.due("nobody", 0, new FaceSenate().samples(1));
        StringBuilder same = new StringBuilder("district a mood 1;");
        for (char m = 'a'; m <= 'g'; m++) {
            same.append("member ").append(m).append(" for a face 0;");
        }
        x = book.senate(same.toString());
        int[] want = {7, 21, 35, 35, 21, 7, 1};
        for (int n = 1; n <= 7; n++) {
            book.due("all alike, samples(" + n + ")", want[n - 1], x.samples(n));
        }
        book.says("NONE for another n.");
        for (int n : Book.outside(1, 7)) {
            book.due("samples(" + n + ")", NONE, x.samples(n));
        }
    }

    private void chain() {
        book.promise(21);
        book.says("CHAIN (0 of one with himself); NONE if there is none, one is not seated, or one can't be.");
        FaceSenate x = book.senate(Halls.SEVEN);
        book.due("chain(0, 0)", 0, x.chain(0, 0));
        book.due("chain(6, 6)", 0, x.chain(6, 6));
        book.due("chain(0, 1)", 1, x.chain(0, 1));
        for (int m : Book.outside(0, 6)) {
            book.due("chain(" + m + ", 0)", NONE, x.chain(m, 0));
            book.due("chain(0, " + m + ")", NONE, x.chain(0, m));
            book.due("chain(" + m + ", " + m + ")", NONE, x.chain(m, m));
        }
        x.unseat(3);
        book.due("the long way round is cut, too", NONE, x.chain(0, 6));
        book.due("one is not seated", NONE, x.chain(3, 0));
        book.due("one is not seated", NONE, x.chain(0, 3));
        book.due("not seated, with himself", NONE, x.chain(3, 3));
        x = book.senate(snake());
        book.due("the longest", 6, x.chain(0, 6));
        book.due("the longest, back", 6, x.chain(6, 0));
    }

    /** Seven in a line that goes round a corner: each sees only the one ahead and the one behind. */
    private static String snake() {
        String[] seats = {"0 0", "1 0", "2 0", "3 0", "3 1", "3 2", "3 3"};
        StringBuilder text = new StringBuilder("district a mood 1;");
        for (int m = 0; m < seats.length; m++) {
            text.append("member ").append((char) ('a' + m)).append(" for a face 1 at ").append(seats[m]).append(';');
        }
        return text.toString();
    }

    private void chainLies() {
        book.says("MEMBERS lie there then, from the first one on (of like ones the first, MEMBER by MEMBER; behind NONE: "
                + "nothing).");
        FaceSenate x = book.senate(snake());
        x.chain(6, 0);
        book.due("numbers", 7, x.about(13));
        for (int i = 0; i <= 6; i++) {
            book.due("lies(" + i + ")", 6 - i, x.lies(i));
        }
        x.chain(4, 4);
        book.due("numbers, one with himself", 1, x.about(13));
        book.due("lies(0)", 4, x.lies(0));
        book.due("lies(1)", NONE, x.lies(1));
        x.chain(4, 7);
        book.due("behind NONE", 0, x.about(13));
        book.due("lies(0)", NONE, x.lies(0));
        // Two ways of two looks, and the first by the one in the middle.
        x = book.senate("hall 2 by 2;district a mood 1;member a for a face 1 at 0 0;member b for a face 1 at 1 1;"
                + "member c for a face 1 at 0 1;member d for a face 1 at 1 0;");
        book.due("chain(0, 1)", 2, x.chain(0, 1));
        book.due("lies(1)", 2, x.lies(1));
        x.change(2, 3);
        book.due("chain(0, 1), the other two changed", 2, x.chain(0, 1));
        book.due("lies(1)", 2, x.lies(1));
        // Of three ways the one whose second is least, whatever the third is, and not as seen from the other end:
        // 3 1 / 2 5 / 0 4.
        x = book.senate("hall 2 by 3;district a mood 1;member a for a face 1 at 0 2;member b for a face 1 at 1 0;"
                + "member c for a face 1 at 0 1;member d for a face 1 at 0 0;member e for a face 1 at 1 2;"
                + "member f for a face 1 at 1 1;");
        chainIs(x, 3, 1, 5, 4);
        chainIs(x, 4, 0, 2, 3);
    }

    private void chainIs(FaceSenate x, int... way) {
        int last = way.length - 1;
        String call = "chain(" + way[0] + ", " + way[last] + ")";
        book.due(call, last, x.chain(way[0], way[last]));
        for (int i = 0; i <= last; i++) {
            book.due(call + ", lies(" + i + ")", way[i], x.lies(i));
        }
        book.due(call + ", lies(" + way.length + ")", NONE, x.lies(way.length));
    }

    private void groups() {
        book.terms();
        book.says("GROUPS: in how many parts those who are seated sit, if who sit BESIDE one another are of one.");
        book.due("nobody", 0, new FaceSenate().groups());
        book.due("nobody is seated", 0, book.senate(Halls.ONE).groups());
        FaceSenate x = book.senate(snake());
        book.due("one, over six looks", 1, x.groups());
        x.unseat(1);
        book.due("cut", 2, x.groups());
        x.unseat(3);
        book.due("cut twice", 3, x.groups());
        x.unseat(5);
        book.due("each alone", 4, x.groups());
        // Seven of whom no two are BESIDE one another.
        String[] seats = {"0 0", "2 0", "1 1", "3 1", "0 2", "2 2", "1 3"};
        StringBuilder text = new StringBuilder("district a mood 1;");
        for (int m = 0; m < seats.length; m++) {
            text.append("member ").append((char) ('a' + m)).append(" for a face 1 at ").append(seats[m]).append(';');
        }
        book.due("seven", 7, book.senate(text.toString()).groups());
    }

    private void place() {
        book.terms();
        book.says("PLACE of a MEMBER: the SEAT (his own, or an empty one) by which the REPORT is most behind the next STEP; of "
                + "like ones the first.");
        FaceSenate x = book.senate("hall 4 by 1;district a mood 1;member a for a face 5 at 2 0;member b for a face 4 at 3 0;"
                + "look bright;light (column > 0) * 3 + (column = 3) * 4;");
        book.due("not another one's, of his own and an empty one the first", 1, x.place(0, 0));
        book.due("REPORT", 10, x.place(0, 1));
        book.due("his own", 3, x.place(1, 0));
        x.unseat(1);
        book.due("an empty one", 3, x.place(0, 0));
        book.due("one who has none", 3, x.place(1, 0));
        x = book.senate(Halls.ONE);
        book.due("all are like: the first", 0, x.place(0, 0));
        x = book.senate("district a mood 1;member a for a face 5 at 3 3;look 0;");
        book.due("REPORT 0 everywhere: the first", 0, x.place(0, 0));
        book.due("REPORT", 0, x.place(0, 1));
        // Who sits BESIDE him there counts, for him and for them.
        x = book.senate("hall 4 by 1;district a mood 1;member a for a face 5 at 0 0;member b for a face 1 at 2 0;look near;");
        book.due("BESIDE the other one", 1, x.place(0, 0));
        book.due("REPORT", 6, x.place(0, 1));
        book.due("BESIDE the other one", 1, x.place(1, 0));
        book.promise(23);
        book.says("NONE if there is no such MEMBER, no SEAT for him, or for another what.");
        x = book.senate("hall 1 by 1;district a mood 1;member a for a face 5 at 0 0;member b for a face 4;");
        book.due("his own is one", 0, x.place(0, 0));
        book.due("no SEAT for him", NONE, x.place(1, 0));
        book.due("no SEAT for him", NONE, x.place(1, 1));
        for (int m : Book.outside(0, 1)) {
            book.due("place(" + m + ", 0)", NONE, x.place(m, 0));
            book.due("place(" + m + ", 1)", NONE, x.place(m, 1));
        }
        for (int what : Book.outside(0, 1)) {
            book.due("place(0, " + what + ")", NONE, x.place(0, what));
        }
    }

    private void move() {
        book.terms();
        book.says("MOVE: two MEMBERS by whose changing places it is most; of like ones the first (the lesser number, then the "
                + "other one).");
        FaceSenate x = book.senate(Halls.SEVEN);
        book.due("all are like", 0, x.move(0));
        book.due("all are like", 1, x.move(1));
        book.due("REPORT", 28, x.move(2));
        // Only who sits on SEAT 0 tells what he is: 3 and 4 are both best there.
        x = book.senate("district a mood 1;member a for a face 1 at 0 0;member b for a face 2 at 1 0;member c for a face 8 at 2 0;"
                + "member d for a face 8 at 3 0;look face * (row + column = 0);");
        book.due("of like ones the first", 0, x.move(0));
        book.due("of like ones the first other one", 2, x.move(1));
        book.due("REPORT", 8, x.move(2));
        x.change(0, 3);
        book.due("any two but him", 0, x.move(0));
        book.due("any two but him", 1, x.move(1));
        x = book.senate("district a mood 1;member a for a face 1 at 1 1;member b for a face 2 at 0 0;look 0;");
        book.due("REPORT 0", 0, x.move(2));
        book.due("REPORT 0", 0, x.move(0));
        book.promise(24);
        book.says("NONE with fewer than two MEMBERS, if no two can (both have no SEATS), or for another what.");
        for (int what = 0; what <= 2; what++) {
            book.due("nobody", NONE, new FaceSenate().move(what));
            book.due("one alone", NONE, book.senate("district a mood 1;member a for a face 5 at 0 0;").move(what));
            book.due("no SEATS", NONE, book.senate(Halls.ONE + "member b for a face 4;").move(what));
        }
        for (int what : Book.outside(0, 2)) {
            book.due("move(" + what + ")", NONE, x.move(what));
        }
        x = book.senate(Halls.ONE + "member b for a face 4;member c for a face 4;");
        x.sit(2, 15);
        book.due("one has a SEAT", 0, x.move(0));
        book.due("one has a SEAT", 2, x.move(1));
        book.due("REPORT", 13, x.move(2));
    }

    private void settled() {
        book.promise(25);
        book.says("SETTLED (0 .. 60); NONE if not within these.");
        book.due("nobody", 0, new FaceSenate().settled());
        book.due("no look", 0, book.senate(Halls.ONE).settled());
        String turning = "district a mood 1;member a for a face 0;look (step < ";
        // Till then he is 0 and 1 by turns, then he stays.
        int[][] want = {{0, 0}, {1, 1}, {59, 59}, {60, 60}, {61, NONE}, {62, NONE}};
        for (int[] w : want) {
            FaceSenate x = book.senate(turning + w[0] + ") * (1 - face) + (step > " + w[0] + " - 1) * face;");
            book.due("changes up to step " + w[0], w[1], x.settled());
        }
        // First: that it changes again later does not count.
        FaceSenate x = book.senate("district a mood 1;member a for a face 0;look face + (step = 3) + (step = 0);");
        book.due("the first time", 1, x.settled());
        x.step();
        book.due("from now on", 0, x.settled());
    }

    private void will() {
        book.promise(26);
        book.says("WILL (n 0 .. 60); NONE if one can't be.");
        FaceSenate x = book.senate("district a mood 1;member a for a face 9;look step % 10;");
        book.due("will(0, 0)", 9, x.will(0, 0));
        book.due("will(0, 1)", 0, x.will(0, 1));
        book.due("will(0, 60)", 9, x.will(0, 60));
        for (int n : Book.outside(0, 60)) {
            book.due("will(0, " + n + ")", NONE, x.will(0, n));
        }
        for (int m : Book.outside(0, 0)) {
            book.due("will(" + m + ", 1)", NONE, x.will(m, 1));
        }
        book.terms();
        book.says("WILL: a MEMBER's FACE behind n STEPS (toothaches as the SEED tells).");
        x = book.senate("district a mood 1;member a for a face 9;member b for a face 9;tooth 50 of 1;draw 3;");
        FaceSenate y = book.senate("district a mood 1;member a for a face 9;member b for a face 9;tooth 50 of 1;draw 3;");
        for (int n = 0; n <= 60; n++) {
            book.due("will(0, " + n + ")", y.member(0, 0), x.will(0, n));
            book.due("will(1, " + n + ")", y.member(1, 0), x.will(1, n));
            y.step();
        }
    }

    private void ahead() {
        book.promise(27);
        book.says("The REPORT behind n STEPS (0 .. 60), no toothaches; NONE for another n.");
        FaceSenate x = book.senate("district a mood 1;member a for a face 7;look step % 10;tooth 100 of 9;");
        book.due("ahead(0)", 7, x.ahead(0));
        book.due("ahead(1)", 0, x.ahead(1));
        book.due("ahead(60)", 9, x.ahead(60));
        for (int n : Book.outside(0, 60)) {
            book.due("ahead(" + n + ")", NONE, x.ahead(n));
        }
        book.due("nobody", 0, new FaceSenate().ahead(60));
    }

    private void alike() {
        book.promise(28);
        book.says("Behind how many STEPS (0 .. 60) all FACES are alike first; NONE if never, or without MEMBERS.");
        book.due("without MEMBERS", NONE, new FaceSenate().alike());
        book.due("one alone", 0, book.senate(Halls.ONE).alike());
        String two = "district a mood 1;member a for a face 9;member b for a face 8 stoic 1;";
        int[][] want = {{0, 1}, {58, 59}, {59, 60}, {60, NONE}};
        for (int[] w : want) {
            book.due("b comes to it in STEP " + w[0], w[1], book.senate(two + "look face + (step = " + w[0] + ");").alike());
        }
        book.due("never", NONE, book.senate(two).alike());
        // First: that they part again does not count.
        book.due("only once", 0, book.senate("district a mood 1;member a for a face 9;member b for a face 9 stoic 1;"
                + "look face - stoic;").alike());
        FaceSenate x = book.senate("district a mood 1;member a for a face 9;member b for a face 9;member c for a face 8;");
        book.due("the last one differs", NONE, x.alike());
    }

    private void unrest() {
        book.promise(29);
        book.says("How many FACES change in n STEPS (0 .. 60), those of each STEP together, no toothaches; NONE for another n.");
        FaceSenate x = book.senate("district a mood 1;member a for a face 0;member b for a face 1;look 1 - face;tooth 100 of 9;");
        book.due("unrest(0)", 0, x.unrest(0));
        book.due("unrest(1)", 2, x.unrest(1));
        book.due("unrest(60)", 120, x.unrest(60));
        for (int n : Book.outside(0, 60)) {
            book.due("unrest(" + n + ")", NONE, x.unrest(n));
        }
        book.due("nobody", 0, new FaceSenate().unrest(60));
    }

    private void sways() {
        book.promise(30);
        book.says("MEMBERS whose FACE behind n STEPS (0 .. 20) would be another one, if a MEMBER's FACE were so much (0 .. 9) "
                + "now, as bits; NONE if one can't be.");
        FaceSenate x = book.senate("hall 2 by 1;district a mood 1;member a for a face 5 at 0 0;member b for a face 5 at 1 0;look near;");
        book.due("no STEP", 1, x.sways(0, 9, 0));
        book.due("his own FACE", 0, x.sways(0, 5, 0));
        book.due("one STEP", 2, x.sways(0, 9, 1));
        book.due("20 STEPS", 1, x.sways(0, 0, 20));
        book.due("19 STEPS", 2, x.sways(0, 0, 19));
        for (int n : Book.outside(0, 20)) {
            book.due("sways(0, 0, " + n + ")", NONE, x.sways(0, 0, n));
        }
        for (int face : Book.outside(0, 9)) {
            book.due("sways(0, " + face + ", 1)", NONE, x.sways(0, face, 1));
        }
        for (int m : Book.outside(0, 1)) {
            book.due("sways(" + m + ", 0, 1)", NONE, x.sways(m, 0, 1));
        }
    }

    private void brightest() {
        book.promise(31);
        book.says("The empty SEAT that is most BRIGHT; of like ones the first; NONE if none is empty.");
        FaceSenate x = book.senate("hall 2 by 2;district a mood 1;member a for a face 1 at 1 1;member b for a face 1;"
                + "light 5 + row * 9;");
        book.due("not where one sits", 2, x.brightest());
        x.unseat(0);
        book.due("of like ones the first", 2, x.brightest());
        x.sit(0, 2);
        book.due("the other one", 3, x.brightest());
        book.due("all alike", 0, new FaceSenate().brightest());
        book.due("all dark", 0, book.senate("light 0;").brightest());
        book.due("all dark, seven are seated", 3, book.senate(Halls.SEVEN + "light 0;").brightest());
        book.due("all as BRIGHT as can be, 9 at most", 0, book.senate("light 9 + column;").brightest());
        x = book.senate("hall 1 by 1;district a mood 1;member a for a face 1 at 0 0;");
        book.due("none is empty", NONE, x.brightest());
        x.unseat(0);
        book.due("one is", 0, x.brightest());
    }

    private void parties() {
        book.promise(32);
        book.says("TURNS (n 1 .. 3) what 0: the REPORT, 1: the first one's first NEWS; NONE if one can't be.");
        FaceSenate x = book.senate(Halls.TRIO);
        int[][] want = {{27, 7}, {21, 7}, {27, 6}};
        for (int n = 1; n <= 3; n++) {
            book.due("parties(" + n + ", 0)", want[n - 1][0], x.parties(n, 0));
            book.due("parties(" + n + ", 1)", want[n - 1][1], x.parties(n, 1));
        }
        for (int n : Book.outside(1, 3)) {
            book.due("parties(" + n + ", 0)", NONE, x.parties(n, 0));
            book.due("parties(" + n + ", 1)", NONE, x.parties(n, 1));
        }
        for (int what : Book.outside(0, 1)) {
            book.due("parties(1, " + what + ")", NONE, x.parties(1, what));
        }
        book.due("nobody: REPORT", 0, new FaceSenate().parties(3, 0));
        book.due("nobody: NEWS", 0, new FaceSenate().parties(3, 1));
    }

    private void turns() {
        book.terms();
        book.says("TURNS of n: two parties let in NEWS (0 .. 9) ahead of each of n STEPS by turns; the first one, who begins, "
                + "wants a great REPORT behind them, the other one a small one; of like ones each takes the least NEWS.");
        FaceSenate x = book.senate("district a mood 1;member a for a face 5;look news;");
        book.due("9 at most", 9, x.parties(1, 1));
        book.due("9 at most", 9, x.parties(1, 0));
        book.due("the other one takes 0", 0, x.parties(2, 0));
        book.due("what the first one lets in is all one: the least", 0, x.parties(2, 1));
        book.due("the first one again", 9, x.parties(3, 0));
        x = book.senate("district a mood 1;member a for a face 5;look 9 - news;");
        book.due("NEWS 0 is best", 0, x.parties(1, 1));
        book.due("REPORT", 9, x.parties(1, 0));
        book.due("the other one takes 9", 0, x.parties(2, 0));
        x = book.senate("district a mood 1;member a for a face 5;look 8 + (news > 3);");
        book.due("of like ones the least", 4, x.parties(1, 1));
        x.news(9);
        book.due("NEWS that are there already may be let in, or others", 4, x.parties(1, 1));
        // The other one can do least where the first one let in 2.
        x = book.senate("district a mood 1;member a for a face 0;look (step = 0) * news + (step = 1) * (face = 2) * 7;");
        book.due("the first one sees ahead", 2, x.parties(2, 1));
        book.due("REPORT", 7, x.parties(2, 0));
    }

    private void least() {
        book.terms();
        book.says("LEAST for a REPORT: the least NEWS by which it is so much at least behind n STEPS.");
        FaceSenate x = book.senate("district a mood 1;member a for a face 0;look news;");
        for (int report = 0; report <= 9; report++) {
            book.due("least(" + report + ", 1)", report, x.least(report, 1));
        }
        book.due("least(MIN, 1)", 0, x.least(Integer.MIN_VALUE, 1));
        book.due("least(-1, 1)", 0, x.least(-1, 1));
        x = book.senate("district a mood 1;member a for a face 0;look (news = 4) * 9 + (news = 2) * 7;");
        book.due("not the greatest, the least that is enough", 2, x.least(6, 1));
        book.due("more than that", 4, x.least(8, 1));
        book.promise(33);
        book.says("LEAST (n 1 .. 20): the NEWS; NONE if none is enough, or for another n.");
        book.due("none is enough", NONE, x.least(10, 1));
        book.due("none is enough", NONE, x.least(Integer.MAX_VALUE, 20));
        x = book.senate("district a mood 1;member a for a face 0;look face + (step % 4 = 3) * news / 3;");
        book.due("least(9, 11)", NONE, x.least(9, 11));
        book.due("least(9, 12)", 9, x.least(9, 12));
        book.due("least(9, 20)", 6, x.least(9, 20));
        for (int n : Book.outside(1, 20)) {
            book.due("least(0, " + n + ")", NONE, x.least(0, n));
        }
    }

    private void best() {
        book.promise(34);
        book.says("NEWS (0 .. 9) by which OFF is least behind n STEPS (0 .. 20); of like ones the least; NONE for another n.");
        FaceSenate x = book.senate("district a mood 9;member a for a face 0;look news;");
        book.due("best(0), all are like", 0, x.best(0));
        book.due("best(1), 9 at most", 9, x.best(1));
        book.due("best(20)", 9, x.best(20));
        x = book.senate("district a mood 9;member a for a face 0;look face + (step = 19) * (news > 4);");
        book.due("best(19)", 0, x.best(19));
        book.due("best(20), of like ones the least", 5, x.best(20));
        for (int n : Book.outside(0, 20)) {
            book.due("best(" + n + ")", NONE, x.best(n));
        }
        book.due("nobody", 0, new FaceSenate().best(20));
        x.news(7);
        book.due("the NEWS that are now don't count", 0, x.best(0));
    }

    private void odds() {
        book.terms();
        book.says("ODDS: that nobody has a toothache in n STEPS, whatever the SEED is.");
        FaceSenate x = book.senate(Halls.ONE + "tooth 25 of 9;draw 17;");
        book.due("odds(1, 0)", 3, x.odds(1, 0));
        x.step();
        book.due("odds(1, 0), another SEED", 3, x.odds(1, 0));
        book.due("odds(1, 1)", 4, x.odds(1, 1));
        book.promise(35);
        book.says("ODDS (n 0 .. 4) the upper part (0), the lower part (1), in lowest terms (0 of 1);");
        book.due("odds(0, 0)", 1, x.odds(0, 0));
        book.due("odds(0, 1)", 1, x.odds(0, 1));
        book.due("odds(4, 0)", 81, x.odds(4, 0));
        book.due("odds(4, 1)", 256, x.odds(4, 1));
        x = book.senate(Halls.ONE + "tooth 100 of 1;");
        for (int n = 1; n <= 4; n++) {
            book.due("none is spared, odds(" + n + ", 0)", 0, x.odds(n, 0));
            book.due("none is spared, odds(" + n + ", 1)", 1, x.odds(n, 1));
        }
        book.due("no STEPS: odds(0, 0)", 1, x.odds(0, 0));
        x = book.senate(Halls.ONE + "tooth 0 of 9;");
        book.due("all are spared", 1, x.odds(4, 0));
        book.due("all are spared", 1, x.odds(4, 1));
        x = book.senate(Halls.ONE + "tooth 1 of 1;");
        book.due("the greatest", 96059601, x.odds(4, 0));
        book.due("the greatest", 100000000, x.odds(4, 1));
        x = book.senate(Halls.ONE + "tooth 99 of 1;");
        book.due("the least", 1, x.odds(4, 0));
        book.due("the least", 100000000, x.odds(4, 1));
        book.says("NONE if n times how many MEMBERS is above 4, or one can't be.");
        for (int n : Book.outside(0, 4)) {
            book.due("odds(" + n + ", 0)", NONE, x.odds(n, 0));
            book.due("odds(" + n + ", 1)", NONE, x.odds(n, 1));
            book.due("nobody: odds(" + n + ", 0)", NONE, new FaceSenate().odds(n, 0));
        }
        for (int part : Book.outside(0, 1)) {
            book.due("odds(1, " + part + ")", NONE, x.odds(1, part));
        }
        book.due("nobody: odds(4, 0)", 1, new FaceSenate().odds(4, 0));
        String members = "member b for a face 1;";
        x = book.senate(Halls.ONE + members + "tooth 50 of 1;");
        book.due("two, two STEPS", 16, x.odds(2, 1));
        book.due("two, three STEPS", NONE, x.odds(3, 1));
        x = book.senate(Halls.ONE + members + "member c for a face 1;tooth 50 of 1;");
        book.due("three, one STEP", 8, x.odds(1, 1));
        book.due("three, two STEPS", NONE, x.odds(2, 1));
        x = book.senate(Halls.ONE + members + "member c for a face 1;member d for a face 1;tooth 50 of 1;");
        book.due("four, one STEP", 16, x.odds(1, 1));
        x = book.senate(Halls.ONE + members + "member c for a face 1;member d for a face 1;member e for a face 1;tooth 50 of 1;");
        book.due("five, one STEP", NONE, x.odds(1, 1));
        book.due("five, no STEP", 1, x.odds(0, 1));
    }

    private void moved() {
        book.promise(36);
        book.says("MEMBERS whose FACE the next STEP makes more (what 0), less (1), leaves (2), as bits; NONE for another what.");
        FaceSenate x = book.senate("district a mood 1;member a for a face 9;member b for a face 0;member c for a face 5 stoic 1;"
                + "member d for a face 5 stoic 2;look face + (stoic = 1) - (stoic = 2) + (stoic = 0) * (face * 2 - 9);");
        // a would be 18 and stays at 9, b would be -9 and stays at 0.
        book.due("moved(0)", 4, x.moved(0));
        book.due("moved(1)", 8, x.moved(1));
        book.due("moved(2)", 3, x.moved(2));
        for (int what : Book.outside(0, 2)) {
            book.due("moved(" + what + ")", NONE, x.moved(what));
        }
        for (int what = 0; what <= 2; what++) {
            book.due("nobody: moved(" + what + ")", 0, new FaceSenate().moved(what));
        }
        book.due("all seven", 127, book.senate(Halls.SEVEN).moved(2));
    }

    private void key() {
        book.promise(37);
        book.says("the REPORT behind the next STEP would be least; of like ones the first; NONE without MEMBERS.");
        book.due("without MEMBERS", NONE, new FaceSenate().key());
        book.due("one alone", 0, book.senate(Halls.ONE).key());
        book.due("the last one", 6, book.senate(Halls.SEVEN).key());
        book.due("all are like", 0, book.senate(Halls.SEVEN + "look 3;").key());
        FaceSenate x = book.senate("district a mood 1;member a for a face 3;member b for a face 7;member c for a face 7;");
        book.due("of like ones the first", 1, x.key());
        // His FACE is 0, no less and no more: what is made of FACE 0 makes it dear.
        x = book.senate("district a mood 1;member a for a face 3;member b for a face 5 stoic 1;"
                + "look face + (face = 0) * stoic * 9;");
        book.due("b would come to 9", 0, x.key());
        // His SEAT is as it is: he is still one whom the other sees.
        x = book.senate("hall 2 by 1;district a mood 1;member a for a face 1 at 0 0;member b for a face 9 at 1 0;"
                + "look beside * 4 + face * (face < 9);");
        book.due("he is seen as he sits", 0, x.key());
    }

    private void lies() {
        book.promise(38);
        book.says("The i-th number of what lies there; NONE if there is none such.");
        FaceSenate x = book.senate(Halls.SEVEN);
        book.due("nothing lies there", NONE, x.lies(0));
        x.chain(0, 5);
        book.due("lies(0)", 0, x.lies(0));
        book.due("lies(2)", 5, x.lies(2));
        for (int i : Book.outside(0, 2)) {
            book.due("lies(" + i + ")", NONE, x.lies(i));
        }
        book.due("lies(6)", NONE, x.lies(6));
        book.due("lies(7)", NONE, x.lies(7));
    }

    private void about() {
        book.promise(46);
        book.says("11: bytes on the TAPE, 12: units, 13: numbers that lie there. NONE for another what.");
        FaceSenate x = Twins.busy();
        int[] want = {4, 2, 3, 2, 4, 1, x.about(6), 3, 2, 2, 10, 52, 11, 2};
        for (int what = 0; what < want.length; what++) {
            book.due("about(" + what + ")", want[what], x.about(what));
        }
        for (int what : Book.outside(0, 13)) {
            book.due("about(" + what + ")", NONE, x.about(what));
        }
        book.terms();
        book.says("`NONE = -1`: There is none.");
        book.due("NONE", -1, FaceSenate.NONE);
    }
}
