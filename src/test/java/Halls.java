/** SENATES that several tests speak of. */
final class Halls {
    /** FACES 3, 6, 9; behind a STEP each is FACE + NEWS - stoic (0, 4, 2). SEATS 0, 1, none, of three. */
    static final String TRIO = "hall 3 by 1;district a mood 5;district b mood 2;member x for a face 3 at 0 0;"
            + "member y for a face 6 stoic 4 at 1 0;member z for b face 9 stoic 2;"
            + "look face + news - stoic;light column * 3 + step;";

    /** Seven in four rows and columns, FACES 1 to 7, as a drawing: 0 1 2 / 3 . 4 / 5 6. */
    static final String SEVEN = "hall 4 by 4;district a mood 5;member a for a face 1 at 0 0;"
            + "member b for a face 2 at 1 0;member c for a face 3 at 2 0;member d for a face 4 at 0 1;"
            + "member e for a face 5 at 2 1;member f for a face 6 at 0 2;member g for a face 7 at 1 2;";

    /** One MEMBER, FACE 5, no SEAT. */
    static final String ONE = "district a mood 1;member a for a face 5;";

    private Halls() {
    }
}
