import java.util.function.IntUnaryOperator;

/** The sentences of the document that name no boundary, each by an example that is worked out by hand. */
final class PlainSentences {
    private static final int NONE = FaceSenate.NONE;

    private final Book book;

    PlainSentences(Book book) {
        this.book = book;
    }

    void hold() {
        book.terms();
        aStep();
        acts();
        report();
        chain();
        settled();
        constants();
        member();
        district();
        seat();
        step();
        stand();
        groups();
        place();
        move();
        key();
        fits();
        about();
    }

    private FaceSenate trio() {
        return book.senate(Halls.TRIO);
    }

    private void all(String call, int[] want, IntUnaryOperator got) {
        for (int i = 0; i < want.length; i++) {
            book.due(call + " " + i, want[i], got.applyAsInt(i));
        }
    }

    // ---- the terms

    /** A pair whose FACES come of the other one's and the NEWS; half of the draws are toothaches. */
    private FaceSenate pair() {
        FaceSenate x = book.senate("hall 2 by 1;district d mood 0;member p for d face 2 at 0 0;"
                + "member q for d face 5 stoic 1 at 1 0;look near + news;tooth 50 of 3;draw 7;");
        x.news(1);
        return x;
    }

    private void stepped(FaceSenate x, int winced, int first, int second, int seed, int step) {
        book.due("step " + step + " WINCE", winced, x.step());
        book.due("step " + step + " FACE", first, x.member(0, 0));
        book.due("step " + step + " other FACE", second, x.member(1, 0));
        book.due("step " + step + " SEED", seed, x.about(6));
        book.due("step " + step, step, x.about(5));
    }

    private void aStep() {
        book.says("A STEP: each MEMBER's FACE becomes what comes of look (his FACE, if it is not told) by face, near (FACES of all "
                + "BESIDE him together), beside (how many these are), bright, stoic, news, step, row, column (of his SEAT; 0 both "
                + "without one), 0 at least, 9 at most, all by what is so ahead of this; then, MEMBER by MEMBER, the SEED (draw, at "
                + "first) becomes its 137-fold and 71 more, modulo 1,000, and if its rest by 100 is less than tooth tells, his FACE "
                + "is so much less as is told (0 at least: a WINCE); the step goes up by 1.");
        FaceSenate x = pair();
        // 6 and 3 come of look; 7 * 137 + 71 leaves 30, 30 * 137 + 71 leaves 181: the first one has a toothache.
        stepped(x, 1, 3, 3, 181, 1);
        // 181 * 137 + 71 leaves 868, then 987: none has.
        stepped(x, 0, 4, 4, 987, 2);
        // 290, then 801: the other one has.
        stepped(x, 2, 5, 2, 801, 3);
    }

    private void acts() {
        book.says("ACTS: a STEP; NEWS are let in; a MEMBER is seated on an empty SEAT; two change places (one of them may have "
                + "none); one is unseated.");
        FaceSenate x = trio();
        book.due("ACTS ahead of all", 0, x.about(7));
        x.step();
        book.due("a STEP", 1, x.about(7));
        x.news(4);
        book.due("NEWS", 2, x.about(7));
        x.sit(0, 2);
        book.due("seated elsewhere", 3, x.about(7));
        x.change(0, 1);
        book.due("two change places", 4, x.about(7));
        x.change(2, 1);
        book.due("one of them has none", 5, x.about(7));
        x.unseat(2);
        book.due("unseated", 6, x.about(7));
        x.sit(2, 0);
        book.due("one who had no SEAT is seated", 7, x.about(7));
        x.image(0);
        x.chain(0, 2);
        x.later(5);
        x.looks(1, 1, 1, true);
        x.untell(0);
        book.due("others are no ACTS", 7, x.about(7));
    }

    private void report() {
        book.says("The REPORT: all FACES together.");
        FaceSenate x = trio();
        book.due("REPORT", 18, x.report());
        x.step();
        book.due("behind a STEP", 12, x.report());
        book.due("of seven", 28, book.senate(Halls.SEVEN).report());
        book.promise(9);
        book.says("The REPORT.");
        x.undo();
        book.due("report()", 18, x.report());
        book.terms();
    }

    private void chain() {
        book.says("CHAIN of two who are seated: the fewest looks from one to one BESIDE him by which the other one is come to.");
        FaceSenate x = book.senate(Halls.SEVEN);
        int[] fromThird = {2, 1, 0, 3, 1, 4, 5};
        all("from 2 to", fromThird, m -> x.chain(2, m));
        all("to 2 from", fromThird, m -> x.chain(m, 2));
        book.due("all the way round", 6, x.chain(4, 6));
        x.sit(1, 5);
        book.due("through the middle", 2, x.chain(4, 3));
        book.due("and down", 2, x.chain(1, 5));
    }

    private void settled() {
        book.says("SETTLED: behind how many STEPS no FACE changes by the next one first.");
        // FACES 6, 4 less by each STEP, and 9, 2 less: the last one changes in the fifth STEP.
        book.due("settled()", 5, trio().settled());
        FaceSenate x = book.senate(Halls.ONE + "look face + (step = 3);");
        book.due("the first time counts, though it goes on later", 0, x.settled());
        x = book.senate(Halls.ONE + "look face + (step < 2) + (step = 5);");
        book.due("the first time counts, though it goes on later", 2, x.settled());
    }

    private void constants() {
        book.says("The constants: `NONE = -1`: There is none.");
        book.due("NONE", -1, FaceSenate.NONE);
    }

    // ---- the promises

    private void member() {
        book.promise(6);
        book.says("Of a MEMBER what 0: FACE, 1: SEAT (NONE), 2: DISTRICT, 3: stoic, 4: who sit BESIDE him, as bits, 5: their FACES "
                + "together, 6: how BRIGHT he sits;");
        FaceSenate x = trio();
        all("member 0, what", new int[] {3, 0, 0, 0, 2, 6, 0}, what -> x.member(0, what));
        all("member 1, what", new int[] {6, 1, 0, 4, 1, 3, 3}, what -> x.member(1, what));
        all("member 2, what", new int[] {9, NONE, 1, 2, 0, 0, 0}, what -> x.member(2, what));
        x.sit(2, 2);
        x.step();
        all("member 0, later, what", new int[] {3, 0, 0, 0, 2, 2, 1}, what -> x.member(0, what));
        all("member 1, later, what", new int[] {2, 1, 0, 4, 5, 10, 4}, what -> x.member(1, what));
        all("member 2, later, what", new int[] {7, 2, 1, 2, 2, 2, 7}, what -> x.member(2, what));
    }

    private void district() {
        book.promise(7);
        book.says("Of a DISTRICT what 0: mood, 1: its MEMBERS, as bits, 2: their FACES together, 3: OFF;");
        FaceSenate x = trio();
        all("district 0, what", new int[] {5, 3, 9, 1}, what -> x.district(0, what));
        all("district 1, what", new int[] {2, 4, 9, 7}, what -> x.district(1, what));
        x.step();
        all("district 0, later, what", new int[] {5, 3, 5, 5}, what -> x.district(0, what));
        all("district 1, later, what", new int[] {2, 4, 7, 5}, what -> x.district(1, what));
    }

    private void seat() {
        book.promise(8);
        book.says("Of a SEAT what 0: who sits there (NONE), 1: how BRIGHT it is;");
        FaceSenate x = trio();
        all("who sits on", new int[] {0, 1, NONE}, seat -> x.seat(seat, 0));
        all("how BRIGHT is", new int[] {0, 3, 6}, seat -> x.seat(seat, 1));
        x.change(1, 2);
        x.step();
        all("who sits later on", new int[] {0, 2, NONE}, seat -> x.seat(seat, 0));
        all("how BRIGHT is later", new int[] {1, 4, 7}, seat -> x.seat(seat, 1));
    }

    private void step() {
        book.promise(11);
        book.says("A STEP: who WINCE, as bits");
        FaceSenate x = pair();
        book.due("the first one", 1, x.step());
        book.due("none", 0, x.step());
        book.due("the other one", 2, x.step());
    }

    private void stand() {
        book.promise(18);
        book.says("STAND what 0: the FACE, 1: OFF then;");
        // In district a 4 and 6 are its mood twice; the other one is 7 off. y should have 7, z should have 2.
        FaceSenate x = trio();
        all("stand, the FACE of", new int[] {4, 7, 2}, m -> x.stand(m, 0));
        all("stand, OFF by", new int[] {7, 7, 1}, m -> x.stand(m, 1));
    }

    private void groups() {
        book.promise(22);
        book.says("GROUPS: how many.");
        FaceSenate x = book.senate(Halls.SEVEN);
        book.due("one chain of seven", 1, x.groups());
        x.unseat(0);
        book.due("two parts", 2, x.groups());
        x.sit(1, 15);
        book.due("three parts", 3, x.groups());
        x.sit(0, 1);
        book.due("one joins", 3, x.groups());
    }

    private void place() {
        book.promise(23);
        book.says("PLACE what 0: the SEAT, 1: the REPORT then;");
        FaceSenate x = book.senate(Halls.TRIO.replace("face + news - stoic", "bright"));
        book.due("place(0, 0)", 2, x.place(0, 0));
        book.due("place(0, 1)", 9, x.place(0, 1));
        book.due("place(1, 0)", 2, x.place(1, 0));
        book.due("place(1, 1)", 6, x.place(1, 1));
        book.due("place(2, 0)", 2, x.place(2, 0));
        book.due("place(2, 1)", 9, x.place(2, 1));
    }

    private void move() {
        book.promise(24);
        book.says("MOVE what 0: the lesser one, 1: the other one, 2: the REPORT then;");
        // On the one SEAT that is BRIGHT the FACES 3, 6, 9 bring 1, 2, 3.
        FaceSenate x = book.senate(Halls.TRIO.replace("face + news - stoic", "face * bright / 9"));
        all("move", new int[] {1, 2, 3}, x::move);
        x.change(1, 2);
        all("move, once more", new int[] {0, 1, 3}, x::move);
    }

    private void key() {
        book.promise(37);
        book.says("The MEMBER but for whom (his FACE 0 now, his SEAT as it is) the REPORT behind the next STEP would be least;");
        // But for the first one 8 would be left, for the second one 5, for the third one 11; nobody is unseated by it.
        book.due("key()", 1, book.senate(Halls.TRIO.replace("face + news - stoic", "near + beside")).key());
        book.due("key()", 0, book.senate(Halls.TRIO.replace("face + news - stoic", "near * (column = 1)")).key());
    }

    private void fits() {
        book.promise(42);
        book.says("FITS, as bits.");
        FaceSenate x = trio();
        book.due("nothing TOLD", 1023, x.fits(0));
        x.looks(1, 0, 5, true);
        book.due("3 and NEWS are 5 at least", 1020, x.fits(0));
        x.looks(2, 1, 4, false);
        book.due("6 - 8 and NEWS twice are not 4", 4, x.fits(0));
        x.looks(0, 2, 9, false);
        book.due("9 is not less than 9", 0, x.fits(0));
    }

    private void about() {
        book.promise(46);
        book.says("What 0: MEMBERS, 1: DISTRICTS, 2: COLUMNS, 3: ROWS, 4: NEWS, 5: the step, 6: the SEED, 7: ACTS that can be undone, "
                + "8: redone, 9: LOOKS, 10: the TIME, 11: bytes on the TAPE, 12: units, 13: numbers that lie there.");
        FaceSenate x = book.senate(Halls.TRIO.replace("3 by 1", "3 by 2") + "draw 1;");
        x.news(8);
        x.step();
        x.unseat(1);
        x.unseat(0);
        x.undo();
        x.undo();
        x.looks(0, 0, 0, true);
        x.looks(0, 1, 1, true);
        x.looks(0, 2, 2, true);
        x.later(77);
        x.chain(0, 1);
        Check.tell(x, "draw 1;");
        // The SEED: 1, 208, 567, 750.
        all("about", new int[] {3, 2, 3, 2, 8, 1, 750, 2, 2, 3, 77, 7, 6, 2}, x::about);
    }
}
