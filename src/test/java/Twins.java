import java.util.function.Consumer;
import java.util.function.Supplier;
import java.util.function.ToIntFunction;

/**
 * Two objects with the same life; one is asked, or refuses a call, the other is not: whatever is asked of
 * both behind it, also of what can only be seen by undoing, going back or telling a SENATE, is the same.
 */
final class Twins {
    private static final String BUSY = "hall 3 by 2;district a mood 5;district b mood 2;member p for a face 3 at 0 0;"
            + "member q for b face 8 stoic 2 at 1 0;member r for a face 4 at 1 1;member s for b face 9 stoic 1;"
            + "look (face + near) / (beside + 1) + news - stoic;light column * 3 + step;tooth 40 of 2;draw 7;";

    private Twins() {
    }

    /** ACTS that can be undone and redone, BOXES, LOOKS told and untold, a chain, NEWS, and bytes on the TAPE. */
    static FaceSenate busy() {
        FaceSenate x = new FaceSenate();
        Check.tell(x, BUSY);
        x.senate();
        x.image(0);
        x.news(4);
        x.step();
        x.image(2);
        x.later(7);
        x.looks(1, 0, 2, true);
        x.looks(2, 1, 3, true);
        x.later(3);
        x.untell(0);
        x.change(0, 3);
        x.sit(2, 5);
        x.step();
        x.undo();
        x.undo();
        x.chain(1, 3);
        Check.tell(x, "hall 2 by 2;district z mood 3;member z for z face 4;");
        return x;
    }

    /** The call is refused, and nothing is done by it. */
    static void refused(Book book, String call, int want, ToIntFunction<FaceSenate> ask) {
        refused(book, call, want, Twins::busy, ask);
    }

    static void refused(Book book, String call, int want, Supplier<FaceSenate> life, ToIntFunction<FaceSenate> ask) {
        FaceSenate x = life.get();
        book.due(call, want, ask.applyAsInt(x));
        book.same(call + " does nothing", trace(life.get()), trace(x));
    }

    /** Questions do nothing. */
    static void unmoved(Book book, String call, Consumer<FaceSenate> ask) {
        FaceSenate x = busy();
        ask.accept(x);
        book.same(call + " does nothing", trace(busy()), trace(x));
    }

    static String trace(FaceSenate x) {
        StringBuilder s = new StringBuilder();
        put(s, x.fault(0), x.fault(1));
        s.append(stateOf(x));
        for (int i = 0; i < 45 && x.undo(); i++) {
            s.append(" undone").append(brief(x));
        }
        for (int i = 0; i < 45 && x.redo(); i++) {
            s.append(" redone").append(brief(x));
        }
        for (int look = 0; look < 4; look++) {
            s.append(x.untell(look) ? " untold" : " not");
        }
        for (int box = 0; box < 3; box++) {
            put(s, x.back(box));
            s.append(brief(x));
        }
        put(s, x.senate(), x.fault(0), x.fault(1), x.about(0), x.about(10), x.report());
        return s.toString();
    }

    /** All that can be seen without doing anything, but for the FAULT. */
    static String stateOf(FaceSenate x) {
        StringBuilder s = new StringBuilder();
        for (int what = 0; what < 14; what++) {
            put(s, x.about(what));
        }
        for (int m = 0; m < 7; m++) {
            for (int what = 0; what < 7; what++) {
                put(s, x.member(m, what));
            }
        }
        for (int d = 0; d < 4; d++) {
            put(s, x.district(d, 0), x.district(d, 1));
        }
        for (int i = 0; i < 8; i++) {
            put(s, x.lies(i));
        }
        put(s, x.fits(0), x.fits(7), x.fits(x.about(10)));
        return s.toString();
    }

    private static String brief(FaceSenate x) {
        StringBuilder s = new StringBuilder();
        put(s, x.about(4), x.about(5), x.about(6));
        for (int m = 0; m < 4; m++) {
            put(s, x.member(m, 0), x.member(m, 1));
        }
        return s.toString();
    }

    private static void put(StringBuilder s, int... numbers) {
        for (int n : numbers) {
            s.append(' ').append(n);
        }
    }
}
