/** The boundaries of the text: its bytes, TOKENS, lines, numbers, NAMES, units, and the FAULTS with their places. */
final class TextBoundaries {
    private static final int NONE = FaceSenate.NONE;
    private static final String A = "district a mood 1;";
    private static final String RESERVED = "hall by district mood member for face stoic at look light tooth of draw or "
            + "and not near beside bright news step row column";

    /** So many units, the last one at the end. */
    private static final String TWENTY_NINE = "1+".repeat(28) + "1";
    private static final String THIRTY = "1+".repeat(29) + "1";

    private static final String FULL = "hall 2 by 3;district p mood 9;district q mood 8;member m for p face 1 stoic 2 at 1 2;"
            + "member n for q face 5 stoic 4 at 0 0;look not face;light not 0;tooth 100 of 3;draw 9;";
    private static final String PLAIN = "district n mood 3;member p for n face 1;member m for n face 5;member n for n face 3;";

    private final Book book;

    TextBoundaries(Book book) {
        this.book = book;
    }

    void hold() {
        book.terms();
        bytes();
        words();
        numbers();
        signs();
        blanks();
        asLongAsCanBe();
        names();
        hall();
        districts();
        members();
        seats();
        onceEach();
        units();
        nesting();
        firstByPlace();
        faultsOneAndTwo();
        faultsThreeToFive();
        newObject();
        feed();
        end();
        senate();
        oneBehindTheOther();
        fault();
    }

    /** A text with a FAULT at the place that is marked by ^. */
    private void bad(int number, String marked) {
        book.fault(marked.replace("^", ""), number, marked.indexOf('^'));
    }

    private FaceSenate good(String text) {
        return book.sound(text, text.split("\\bmember \\w+ for ", -1).length - 1);
    }

    // ---- the terms

    private void bytes() {
        book.says("A SENATE is a text of at most 1,600 bytes (empty at first): senate = {line}.");
        good("");
        good(" ".repeat(1600));
        String last = A + "member b for a face 7 at 3 3;";
        FaceSenate x = good(" ".repeat(1600 - last.length()) + last);
        book.due("the last bytes of a full TAPE are read", 15, x.member(0, 1));
        bad(2, " ".repeat(1593) + "draw 1 ^");
        bad(1, " ".repeat(1599) + "^#");
        bad(1, "^#" + " ".repeat(1599));
    }

    private void words() {
        book.says("TOKENS: words (a .. z, 8 at most)");
        good("district a mood 1;district z mood 1;");
        good("district abcdefgh mood 1;district abcdefg mood 1;district zzzzzzzz mood 1;district zzzzzzzy mood 1;");
        bad(1, "district ^abcdefghi mood 1;");
        bad(1, "district ^abcdefghabcdefgh mood 1;");
        bad(1, "^districts mood 1;");
        // The bytes just outside a .. z.
        bad(1, "district ^` mood 1;");
        bad(1, "district ^{ mood 1;");
        bad(1, "district a^` mood 1;");
        bad(1, "district z^{ mood 1;");
        bad(1, "district ^A mood 1;");
    }

    private void numbers() {
        book.says("N (1 to 4 digits)");
        book.due("one digit", 8, good("draw 8;").about(6));
        book.due("four digits", 8, good("draw 0008;").about(6));
        book.due("four digits", 999, good("draw 0999;").about(6));
        book.due("four digits", 1, good("light 9999 = 9998 + 1;").seat(0, 1));
        book.due("four digits", 1, good("light 0000 = 0;").seat(0, 1));
        bad(1, "draw ^00008;");
        bad(1, "light ^10000;");
        bad(1, "draw ^1234567890;");
        bad(1, "draw ^" + "1".repeat(1500) + ";");
        // The bytes just outside 0 .. 9; the one below is a sign.
        bad(2, "draw ^/1;");
        bad(1, "draw ^:1;");
        bad(1, "draw 1^:;");
        bad(2, "draw ^-1;");
    }

    private void signs() {
        book.says("signs ; ( ) < > = + - * / %");
        for (int b = 0; b < 256; b++) {
            String text = "" + (char) b;
            boolean letter = b >= 'a' && b <= 'z';
            boolean digit = b >= '0' && b <= '9';
            boolean token = letter || digit || ";()<>=+-*/%".contains(text);
            if (b == 32 || b == 10) {
                good(text);
            } else {
                book.fault(text, token ? 2 : 1, 0);
                book.fault("draw 1;" + text, token ? 2 : 1, 7);
            }
        }
    }

    private void blanks() {
        book.says("blanks (32, 10) part them or not");
        FaceSenate x = good("hall2 by3;district a mood5;member b for a face4 stoic3 at1 2;look(face)+near;tooth5 of6;draw7;");
        book.due("SEAT", 5, x.member(0, 1));
        x = good("\n\nhall\n2\n\nby  3 ; district\na mood\n5;\n \nmember b for a face 4 stoic 3 at 1 2 ;draw 7\n;\n");
        book.due("SEAT", 5, x.member(0, 1));
        for (char other : new char[] {0, 9, 11, 12, 13, 31, 33, 127, 160, 255}) {
            bad(1, "draw^" + other + "1;");
        }
        // Blanks within a word or a number make two of them.
        bad(2, "^dra w 1;");
        bad(2, "draw 1 ^2;");
        bad(2, "district a ^b mood 1;");
    }

    private void asLongAsCanBe() {
        book.says("each is as long as can be; no letter directly behind an N.");
        bad(2, "^halls 1 by 1;");
        bad(2, "^drawn 1;");
        bad(2, "district a ^moody 1;");
        book.due("one number, not two", 12, good("draw 12;").about(6));
        bad(1, "hall ^4by 4;");
        bad(1, "hall 4 by ^4by 4;");
        bad(1, "draw ^1a;");
        bad(1, "draw ^1234a;");
        bad(1, "draw ^12345a;");
        bad(1, "look face + ^1or 2;");
        // Others may be directly behind an N, and an N directly behind a word.
        bad(1, "draw 1^A;");
        bad(1, "draw 1^#;");
        good("look(1)+1*2<3;light 1 and(1);");
        good("draw12;");
        bad(2, "district a^1 mood 1;");
    }

    private void names() {
        book.says("Words that stand for themselves here are no NAMES.");
        for (String word : RESERVED.split(" ")) {
            bad(2, "district ^" + word + " mood 1;");
            bad(2, A + "member ^" + word + " for a face 1;");
            bad(2, A + "member b for ^" + word + " face 1;");
            if (word.length() < 8) {
                good("district " + word + "x mood 1;member x" + word + " for " + word + "x face 1;");
            }
        }
        good("district line mood 1;member senate for line face 1;member e for line face 1;member n for line face 1;"
                + "member both for line face 1;member sum for line face 1;member term for line face 1;");
        good("district one mood 1;district unit mood 1;district name mood 1;district both mood 1;");
    }

    private void hall() {
        book.says("hall (COLUMNS, ROWS: 1 .. 4 both; 4 by 4 if not told) once, ahead of all others");
        for (int columns = 1; columns <= 4; columns++) {
            for (int rows = 1; rows <= 4; rows++) {
                FaceSenate x = good("hall " + columns + " by " + rows + ";");
                book.due("COLUMNS", columns, x.about(2));
                book.due("ROWS", rows, x.about(3));
                book.due("the last SEAT", NONE, x.seat(columns * rows - 1, 0));
                book.due("one more", -2, x.seat(columns * rows, 0));
            }
        }
        FaceSenate x = good(A);
        book.due("COLUMNS", 4, x.about(2));
        book.due("ROWS", 4, x.about(3));
        for (String n : new String[] {"0", "5", "10", "9999", "0000"}) {
            bad(4, "hall ^" + n + " by 1;");
            bad(4, "hall 1 by ^" + n + ";");
        }
        bad(2, "hall 1 by 1;^hall 1 by 1;");
        bad(2, "hall 4 by 4;" + A + "^hall 4 by 4;");
        for (String ahead : new String[] {A, "look 1;", "light 1;", "tooth 1 of 1;", "draw 1;"}) {
            bad(2, ahead + "^hall 0 by 0;");
        }
    }

    private void districts() {
        book.says("at most 4 DISTRICTS (mood 0 .. 9)");
        String four = "district a mood 0;district b mood 9;district c mood 1;district d mood 1;";
        FaceSenate x = good(four);
        book.due("DISTRICTS", 4, x.about(1));
        book.due("the least mood", 0, x.district(0, 0));
        book.due("the greatest mood", 9, x.district(1, 0));
        bad(2, four + "^district e mood 1;");
        bad(2, four + "^district a mood 10;");
        bad(4, "district a mood ^10;");
        bad(4, "district a mood ^9999;");
        good("");
    }

    private void members() {
        book.says("7 MEMBERS (for a DISTRICT told ahead; face 0 .. 9; stoic 0 .. 9, 0 if not told;");
        StringBuilder seven = new StringBuilder(A);
        for (char m = 'a'; m <= 'g'; m++) {
            seven.append("member ").append(m).append(" for a face ").append(m == 'a' ? 0 : 9).append(';');
        }
        FaceSenate x = good(seven.toString());
        book.due("MEMBERS", 7, x.about(0));
        book.due("the least FACE", 0, x.member(0, 0));
        book.due("the greatest FACE", 9, x.member(6, 0));
        book.due("stoic, not told", 0, x.member(6, 3));
        bad(2, seven + "^member h for a face 1;");
        bad(2, seven + "^member a for b face 10;");
        bad(4, A + "member b for a face ^10;");
        bad(4, A + "member b for a face 9 stoic ^10;");
        x = good(A + "member b for a face 9 stoic 9;member c for a face 9 stoic 0;");
        book.due("the greatest stoic", 9, x.member(0, 3));
        book.due("the least stoic", 0, x.member(1, 3));
        bad(5, "member b for ^a face 1;" + A);
        bad(5, A + "member b for ^c face 1;district c mood 1;");
        good(A + "district c mood 1;member b for a face 1;district d mood 1;member c for d face 1;");
        bad(2, A + "member b for a face ^;");
        bad(2, A + "member b for a ^stoic 1;");
        bad(2, A + "member b for a face 1 at 0 0 ^stoic 1;");
    }

    private void seats() {
        book.says("at a SEAT: a column, a row, from 0 on, that nobody is told at; none if not told), numbered as told, "
                + "each sort by itself");
        String hall = "hall 3 by 2;" + A;
        FaceSenate x = good(hall + "member b for a face 1 at 0 0;member c for a face 1;member d for a face 1 at 2 1;"
                + "district b mood 4;member e for b face 1 at 2 0;");
        int[] seats = {0, NONE, 5, 2};
        for (int m = 0; m < seats.length; m++) {
            book.due("SEAT of " + m, seats[m], x.member(m, 1));
        }
        book.due("DISTRICT, by its number", 1, x.member(3, 2));
        book.due("mood of the second", 4, x.district(1, 0));
        bad(4, hall + "member b for a face 1 at ^3 0;");
        bad(4, hall + "member b for a face 1 at 0 ^2;");
        bad(4, A + "member b for a face 1 at ^4 0;");
        bad(4, A + "member b for a face 1 at 0 ^4;");
        bad(3, hall + "member b for a face 1 at 2 1;member c for a face 1 at 2 ^1;");
        good(hall + "member b for a face 1 at 2 1;member c for a face 1 at 1 1;member d for a face 1 at 2 0;");
        bad(2, hall + "member b for a face 1 at 2^;");
        bad(2, hall + "member b for a face 1 at ^;");
    }

    private void onceEach() {
        book.says("look, light, tooth (0 .. 100 of 100, of 1 .. 9; 0 of 1), draw (0 .. 999; 0) once each;");
        bad(2, "look 1;^look 1;");
        bad(2, "light 1;look 1;^light 1;");
        bad(2, "tooth 0 of 1;^tooth 0 of 1;");
        bad(2, "draw 0;^draw 0;");
        bad(2, "draw 0;^draw #;");
        String two = A + "member a for a face 9;member b for a face 1;";
        book.due("0 of 9: nobody", 0, good(two + "tooth 0 of 9;").step());
        book.due("no tooth told: nobody", 0, good(two).step());
        FaceSenate x = good(two + "tooth 100 of 9;");
        book.due("100 of 9: all", 3, x.step());
        book.due("9 less", 0, x.report());
        x = good(two + "tooth 100 of 1;");
        x.step();
        book.due("1 less each", 8, x.report());
        bad(4, "tooth ^101 of 1;");
        bad(4, "tooth ^9999 of 0;");
        bad(4, "tooth 100 of ^0;");
        bad(4, "tooth 100 of ^10;");
        book.due("draw 0", 0, good("draw 0;").about(6));
        book.due("draw 999", 999, good("draw 999;").about(6));
        book.due("draw, not told", 0, good(A).about(6));
        bad(4, "draw ^1000;");
        bad(4, "draw ^9999;");
    }

    private void units() {
        book.says("60 units in all, 30 in one e");
        book.due("units", 60, good("look " + THIRTY + ";light " + THIRTY + ";").about(12));
        book.due("units", 30, good("light " + THIRTY + ";").about(12));
        book.due("no units", 0, good(A).about(12));
        bad(2, "look " + THIRTY + "+^1;");
        bad(2, "light " + THIRTY + "+^(1);");
        bad(2, "look " + THIRTY + ";light " + THIRTY + "+^1;");
        bad(2, "look " + THIRTY + " and not ^1;");
        // A unit ( e ) is one, and what is in it are others.
        book.due("units", 30, good("look (" + TWENTY_NINE + ");").about(12));
        book.due("units", 30, good("look " + TWENTY_NINE.substring(2) + "+(1);").about(12));
        bad(2, "look " + TWENTY_NINE + "+(^1);");
        bad(2, "look (" + TWENTY_NINE + "+^1);");
        bad(2, "look (" + TWENTY_NINE + ")+^1;");
        // Where a unit is due and there are 30, what can't stand there can't either way.
        bad(1, "look " + THIRTY + "+^#;");
        bad(2, "look " + THIRTY + "+^;");
        bad(2, "look " + THIRTY + "+^");
        book.due("all the 30 count", 9, good("light (1+1+1+1+1)+(1+1+1+1)*(1-1+1);").seat(0, 1));
    }

    private void nesting() {
        book.says("(a unit ( e ), or a one behind not, within 6 others at most)");
        good("look " + "(".repeat(7) + "face" + ")".repeat(7) + ";");
        bad(2, "look " + "(".repeat(7) + "^(face)" + ")".repeat(7) + ";");
        good("look " + "not ".repeat(7) + "face;");
        bad(2, "look " + "not ".repeat(7) + "^not face;");
        bad(2, "look " + "not ".repeat(7) + "^(face);");
        bad(2, "look " + "(".repeat(7) + "^not face" + ")".repeat(7) + ";");
        good("look not (not (not (not face + 1)));");
        bad(2, "look not (not (not (not ^(face))));");
        bad(2, "look (not (not (not (^not 1))));");
        // What is beside another is not within it.
        good("look " + "(((((((1))))))) + ".repeat(3) + "(((1)));");
        good("look " + "not not not not not not not 1 or ".repeat(29) + "not not not not not not not 1;");
        // A FAULT further in does not come ahead of the one that is too deep.
        bad(2, "look " + "(".repeat(7) + "^(#");
        bad(1, "look " + "(".repeat(7) + "^#");
        book.due("what is within them comes out", 1, good("light " + "not ".repeat(6) + "3;").seat(0, 1));
        book.due("what is within them comes out", 7, good("light " + "(".repeat(7) + "7" + ")".repeat(7) + ";").seat(0, 1));
    }

    private void firstByPlace() {
        book.says("FAULTS, the first by its place (bytes from 0; the end: the text's length), at one place the least:");
        bad(4, "draw ^1000; #");
        bad(1, "draw ^# 1000;");
        bad(2, "draw ^draw #");
        bad(4, "hall ^5 by 5;");
        bad(5, "member b for ^c face 10 at 4 4;");
        bad(2, "member^");
        // The end, behind blanks too.
        bad(2, "hall^");
        bad(2, "hall  \n^");
        bad(2, "hall 1 by 1^");
        bad(2, "look 1 +^");
        bad(2, "look (1^");
        bad(2, A + "member b for a face 1 at 0^");
    }

    private void faultsOneAndTwo() {
        book.says("1 no TOKEN; 2 one that can't stand there (one of a sort too many, a second time, hall behind another "
                + "line: at the line's first word; a unit too many, what is within 7 others: at its first TOKEN, or the not)");
        bad(1, "^_");
        bad(1, A + "  ^\t");
        bad(2, "^;");
        bad(2, "^mood 1;");
        bad(2, "^x;");
        bad(2, "^7;");
        bad(2, "draw 1;^;");
        bad(2, "draw ^x;");
        bad(2, "draw ^;");
        bad(2, "hall 1 ^1;");
        bad(2, "hall 1 by 1 ^by");
        bad(2, "district a ^1;");
        bad(2, "district ^1 mood 1;");
        bad(2, A + "member b ^a face 1;");
        bad(2, "tooth 1 ^1;");
        bad(2, "look ^;");
        bad(2, "look face ^face;");
        bad(2, "look ^x;");
        bad(2, "look ^mood;");
        bad(2, "look (face^;");
        bad(2, "look face^);");
        bad(2, "look (^);");
        bad(2, "look 1 < 2 ^< 3;");
        bad(2, "look 1 = 2 ^> 3;");
        bad(2, "look ^-1;");
        bad(2, "look 1 + ^not 1;");
        bad(2, "look 1 < ^not 1;");
        bad(2, "look 1 and ^or 1;");
        bad(2, "look 1 ^not 1;");
    }

    private void faultsThreeToFive() {
        book.says("3 a NAME told already (of its sort), a SEAT at which one is told (at the row); 4 a number that can't be; "
                + "5 a NAME that no DISTRICT has.");
        bad(3, A + "district ^a mood 1;");
        bad(3, "district zzzzzzzz mood 1;district ^zzzzzzzz mood 1;");
        bad(3, A + "member b for a face 1;member ^b for a face 1;");
        good(A + "member a for a face 1;");
        bad(3, A + "member b for a face 1 at 3 3;member c for a face 1 at 3 ^3;");
        bad(4, A + "member b for a face 1 at 3 3;member c for a face 1 at 3 ^4;");
        bad(4, A + "member b for a face 1 at 3 3;member c for a face 1 at ^4 3;");
        bad(5, "member b for ^b face 1;");
        bad(5, A + "member b for a face 1;member c for ^b face 1;");
        bad(5, "district aa mood 1;member b for ^a face 1;");
    }

    // ---- promises 1 to 5

    private void newObject() {
        book.promise(1);
        book.says("An empty SENATE (4 by 4 SEATS).");
        FaceSenate x = new FaceSenate();
        int[] about = {0, 0, 4, 4, 0, 0, 0, 0, 0, 0, 0, 0, 0, 0};
        for (int what = 0; what < about.length; what++) {
            book.due("about(" + what + ")", about[what], x.about(what));
        }
        book.due("the last SEAT", NONE, x.seat(15, 0));
        book.due("there is no more", -2, x.seat(16, 0));
        book.due("member(0, 0)", -2, x.member(0, 0));
        book.due("district(0, 0)", NONE, x.district(0, 0));
        book.due("undo()", false, x.undo());
        book.due("redo()", false, x.redo());
        book.due("lies(0)", NONE, x.lies(0));
        for (int box = 0; box < 3; box++) {
            book.due("back(" + box + ")", NONE, x.back(box));
        }
        book.due("fits(0)", 1023, x.fits(0));
    }

    private void feed() {
        book.promise(2);
        book.says("Twenty bytes come behind those on the TAPE, of each number the highest first: how many there are");
        FaceSenate x = new FaceSenate();
        book.due("feed", 20, x.feed(0x64697374, 0x72696374, 0x2061206d, 0x6f6f6420, 0x373b2020));
        book.due("feed, behind them", 40, x.feed(0x6d656d62, 0x65722062, 0x20666f72, 0x20612066, 0x61636520));
        book.due("feed, behind them", 60, x.feed(0x393b0a0a, 0x20202020, 0x20202020, 0x20202020, 0x20202020));
        book.due("senate()", 1, x.senate());
        book.due("mood", 7, x.district(0, 0));
        book.due("FACE", 9, x.member(0, 0));
        x = new FaceSenate();
        x.feed(0x20202020, 0x20202020, 0x20202020, 0x20202020, 0x202020ff);
        x.senate();
        book.due("the highest byte is a byte", 19, x.fault(1));
        book.says("NONE, and nothing comes, if there would be more than 1,600.");
        x = new FaceSenate();
        for (int i = 1; i <= 80; i++) {
            book.due("feed " + i, 20 * i, x.feed(0x20202020, 0x20202020, 0x20202020, 0x20202020, 0x20202020));
        }
        book.due("feed 81", NONE, x.feed(0x23232323, 0x23232323, 0x23232323, 0x23232323, 0x23232323));
        book.due("bytes", 1600, x.about(11));
        x.end(1581);
        book.due("feed behind 1581", NONE, x.feed(0x23232323, 0x23232323, 0x23232323, 0x23232323, 0x23232323));
        book.due("bytes", 1581, x.about(11));
        x.end(1580);
        book.due("feed behind 1580", 1600, x.feed(0x20202020, 0x20202020, 0x20202020, 0x20202020, 0x20202020));
        book.due("nothing of what was refused is there", 0, x.senate());
        Twins.refused(book, "feed", NONE, TextBoundaries::fullTape, y -> y.feed(0x23232323, 0, 0, 0, 0));
    }

    private static FaceSenate fullTape() {
        FaceSenate x = Twins.busy();
        for (int i = 0; i < 80; i++) {
            x.feed(0x20202020, 0x20202020, 0x20202020, 0x20202020, 0x20202020);
        }
        return x;
    }

    private void end() {
        book.promise(3);
        book.says("The TAPE has its first n bytes: n;");
        FaceSenate x = new FaceSenate();
        book.due("end(0) of none", 0, x.end(0));
        Check.tell(x, "draw 7;#draw 8;");
        book.due("end, all of them", 15, x.end(15));
        book.due("end(7)", 7, x.end(7));
        book.due("senate() of the first ones", 0, x.senate());
        book.due("its draw", 7, x.about(6));
        Check.tell(x, "draw 9;");
        book.due("end(0)", 0, x.end(0));
        book.due("bytes", 0, x.about(11));
        book.says("NONE, doing nothing, if it has not so many, or n is below 0.");
        book.due("end(1) of none", NONE, x.end(1));
        for (int n : new int[] {-1, 53, 1600, 1601, Integer.MIN_VALUE, Integer.MAX_VALUE}) {
            Twins.refused(book, "end(" + n + ")", NONE, y -> y.end(n));
        }
        book.due("there were 52", 52, Twins.busy().about(11));
        Check.tell(x, "draw 9;");
        x.end(3);
        book.due("bytes that are gone don't come back", NONE, x.end(4));
    }

    private void senate() {
        book.promise(4);
        book.says("The TAPE (empty then) is the SENATE (all as told, NEWS 0, step 0, no ACTS are kept, no LOOKS, nothing "
                + "lies there, BOXES are empty then; the TIME stays): how many MEMBERS;");
        FaceSenate x = Twins.busy();
        book.due("there were ACTS to undo", true, x.about(7) > 0);
        book.due("there were ACTS to redo", true, x.about(8) > 0);
        book.due("there were LOOKS", true, x.about(9) > 0);
        book.due("something lay there", true, x.about(13) > 0);
        book.due("senate()", 1, x.senate());
        int[] about = {1, 1, 2, 2, 0, 0, 0, 0, 0, 0, 10, 0, 0, 0};
        for (int what = 0; what < about.length; what++) {
            book.due("about(" + what + ")", about[what], x.about(what));
        }
        book.due("undo()", false, x.undo());
        book.due("redo()", false, x.redo());
        book.due("lies(0)", NONE, x.lies(0));
        book.due("fits(7)", 1023, x.fits(7));
        book.due("untell(0)", false, x.untell(0));
        for (int box = 0; box < 3; box++) {
            book.due("back(" + box + ")", NONE, x.back(box));
        }
        book.due("FACE", 4, x.member(0, 0));
        book.due("senate() of an empty TAPE", 0, x.senate());
        book.due("COLUMNS", 4, x.about(2));
        book.due("TIME", 10, x.about(10));
        book.says("NONE: a FAULT (all stays).");
        for (String text : new String[] {"#", "hall 1 by 1;hall", A + A, "hall 5 by 1;", "member b for b face 1;"}) {
            FaceSenate y = Twins.busy();
            FaceSenate twin = Twins.busy();
            y.end(0);
            twin.end(0);
            Check.tell(y, text);
            Check.tell(twin, text);
            book.due("senate() of \"" + text + "\"", NONE, y.senate());
            book.same("all stays by \"" + text + "\"", Twins.stateOf(twin), Twins.stateOf(y));
            twin.senate();
            book.same("all stays by \"" + text + "\", told twice", Twins.trace(twin), Twins.trace(y));
        }
    }

    /** Nothing of an earlier SENATE, or of a text with a FAULT, is left in a later one. */
    private void oneBehindTheOther() {
        FaceSenate x = new FaceSenate();
        for (char sort : "efppfffpep#p#f#eefpf".toCharArray()) {
            if (sort == 'f') {
                tellAnother(x, FULL, "2 by 3; 9 8; 1/5/0/2 5/0/1/4; 1 9 2; a STEP: 3 0 719");
            } else if (sort == 'p') {
                tellAnother(x, PLAIN, "4 by 4; 3; 1/-1/0/0 5/-1/0/0 3/-1/0/0; 5 0 0; a STEP: 0 9 397");
            } else if (sort == 'e') {
                tellAnother(x, "", "4 by 4; ; ; 5 0 0; a STEP: 0 0 0");
            } else {
                Check.tell(x, FULL + "#");
                book.due("a FAULT", NONE, x.senate());
                x.end(0);
            }
        }
    }

    private void tellAnother(FaceSenate x, String text, String want) {
        Check.tell(x, text);
        x.senate();
        book.same("senate() of \"" + text + "\"", want, allOf(x));
    }

    /** What is told of a SENATE, or is so if it is not told, and what a STEP makes of it. */
    private static String allOf(FaceSenate x) {
        StringBuilder s = new StringBuilder(x.about(2) + " by " + x.about(3) + ";");
        for (int d = 0; d < x.about(1); d++) {
            s.append(' ').append(x.district(d, 0));
        }
        s.append(x.about(1) == 0 ? " ;" : ";");
        for (int m = 0; m < x.about(0); m++) {
            s.append(' ').append(x.member(m, 0)).append('/').append(x.member(m, 1));
            s.append('/').append(x.member(m, 2)).append('/').append(x.member(m, 3));
        }
        s.append(x.about(0) == 0 ? " ; " : "; ");
        s.append(x.seat(0, 1)).append(' ').append(x.about(6)).append(' ').append(x.about(12));
        s.append("; a STEP: ").append(x.step()).append(' ').append(x.report()).append(' ').append(x.about(6));
        return s.toString();
    }

    private void fault() {
        book.promise(5);
        book.says("Of the latest senate() what 0: its FAULT (0), 1: its place (NONE).");
        FaceSenate x = new FaceSenate();
        book.due("ahead of any: fault(0)", 0, x.fault(0));
        book.due("ahead of any: fault(1)", NONE, x.fault(1));
        Check.tell(x, "draw 1000;");
        x.senate();
        book.due("fault(0)", 4, x.fault(0));
        book.due("fault(1)", 5, x.fault(1));
        x.end(0);
        book.due("till the next senate(): fault(0)", 4, x.fault(0));
        x.senate();
        book.due("fault(0)", 0, x.fault(0));
        book.due("fault(1)", NONE, x.fault(1));
        Check.tell(x, "#");
        x.senate();
        book.due("at the first byte: fault(1)", 0, x.fault(1));
        book.says("NONE for another what.");
        for (int what : Book.outside(0, 1)) {
            book.due("fault(" + what + ")", NONE, x.fault(what));
        }
    }
}
