/** Promises 1 to 5, the text of a SENATE and its FAULTS. */
public final class TextTest {
    private static final Check CHECK = new Check();
    private static final int NONE = FaceSenate.NONE;

    public static void main(String[] args) {
        newObject();
        feed();
        end();
        senate();
        senateStaysByFault();
        tokens();
        lines();
        numbers();
        names();
        seats();
        formulas();
        nesting();
        units();
        worths();
        CHECK.end("TextTest");
    }

    private static void fault(String text, int number, int place) {
        FaceSenate x = new FaceSenate();
        Check.tell(x, text);
        CHECK.due("senate() of \"" + text + "\"", NONE, x.senate());
        CHECK.due("fault(0) of \"" + text + "\"", number, x.fault(0));
        CHECK.due("fault(1) of \"" + text + "\"", place, x.fault(1));
    }

    private static void newObject() {
        FaceSenate x = new FaceSenate();
        int[] about = {0, 0, 4, 4, 0, 0, 0, 0, 0, 0, 0, 0, 0, 0};
        for (int what = 0; what < about.length; what++) {
            CHECK.due("new: about(" + what + ")", about[what], x.about(what));
        }
        CHECK.due("new: fault(0)", 0, x.fault(0));
        CHECK.due("new: fault(1)", NONE, x.fault(1));
        CHECK.due("new: seat(15, 1)", 5, x.seat(15, 1));
        CHECK.due("new: seat(16, 1)", -2, x.seat(16, 1));
        CHECK.due("new: back(0)", NONE, x.back(0));
    }

    private static void feed() {
        FaceSenate x = new FaceSenate();
        for (int i = 1; i <= 80; i++) {
            CHECK.due("feed " + i, 20 * i, x.feed(0x20202020, 0x20202020, 0x20202020, 0x20202020, 0x20202020));
        }
        CHECK.due("feed 81", NONE, x.feed(0, 0, 0, 0, 0));
        CHECK.due("about(11)", 1600, x.about(11));
        CHECK.due("end(1581)", 1581, x.end(1581));
        CHECK.due("feed of 1581", NONE, x.feed(0, 0, 0, 0, 0));
        CHECK.due("end(1580)", 1580, x.end(1580));
        CHECK.due("feed of 1580", 1600, x.feed(0x20202020, 0x20202064, 0x72617720, 0x383b2020, 0x20202020));
        CHECK.due("senate() of a full tape", 0, x.senate());
        CHECK.due("its draw", 8, x.about(6));
        CHECK.due("feed of a byte above 127", 20, x.feed(0x20202020, 0xff202020, 0, 0, 0));
        CHECK.due("senate()", NONE, x.senate());
        CHECK.due("fault(0)", 1, x.fault(0));
        CHECK.due("fault(1)", 4, x.fault(1));
    }

    private static void end() {
        FaceSenate x = new FaceSenate();
        CHECK.due("end(0)", 0, x.end(0));
        CHECK.due("end(1)", NONE, x.end(1));
        x.feed(1, 2, 3, 4, 5);
        CHECK.due("end(21)", NONE, x.end(21));
        CHECK.due("end(-1)", NONE, x.end(-1));
        CHECK.due("about(11)", 20, x.about(11));
        CHECK.due("end(20)", 20, x.end(20));
        CHECK.due("end(3)", 3, x.end(3));
        CHECK.due("end(4)", NONE, x.end(4));
        CHECK.due("about(11)", 3, x.about(11));
    }

    private static void senate() {
        FaceSenate x = CHECK.senate("district a mood 5;member x for a face 3 at 0 0;member y for a face 6 at 1 0;draw 9;");
        x.news(4);
        x.step();
        x.step();
        x.undo();
        x.chain(0, 1);
        x.looks(1, 0, 3, true);
        x.later(7);
        x.image(0);
        Check.tell(x, "hall 2 by 3;district a mood 1;member x for a face 8;");
        CHECK.due("senate()", 1, x.senate());
        int[] about = {1, 1, 2, 3, 0, 0, 0, 0, 0, 0, 7, 0, 0, 0};
        for (int what = 0; what < about.length; what++) {
            CHECK.due("told again: about(" + what + ")", about[what], x.about(what));
        }
        CHECK.due("member(0, 0)", 8, x.member(0, 0));
        CHECK.due("member(0, 1)", NONE, x.member(0, 1));
        CHECK.due("back(0)", NONE, x.back(0));
        CHECK.due("lies(0)", NONE, x.lies(0));
        CHECK.due("fits(7)", 1023, x.fits(7));
        CHECK.due("senate() of nothing", 0, x.senate());
        CHECK.due("about(2)", 4, x.about(2));
    }

    private static void senateStaysByFault() {
        FaceSenate x = CHECK.senate("district a mood 5;member x for a face 3 at 0 0;draw 9;look face + 1;");
        x.news(4);
        x.step();
        x.chain(0, 0);
        x.looks(1, 0, 3, true);
        x.image(0);
        Check.tell(x, "hall 2 by 3;draw 1000;");
        CHECK.due("senate()", NONE, x.senate());
        CHECK.due("fault(0)", 4, x.fault(0));
        CHECK.due("fault(1)", 17, x.fault(1));
        CHECK.due("fault(2)", NONE, x.fault(2));
        CHECK.due("fault(-1)", NONE, x.fault(-1));
        int[] about = {1, 1, 4, 4, 4, 1, (9 * 137 + 71) % 1000, 2, 0, 1, 0, 22, 2, 1};
        for (int what = 0; what < about.length; what++) {
            CHECK.due("by a fault: about(" + what + ")", about[what], x.about(what));
        }
        CHECK.due("member(0, 0)", 4, x.member(0, 0));
        CHECK.due("end(12)", 12, x.end(12));
        CHECK.due("senate() mended", 0, x.senate());
        CHECK.due("fault(0)", 0, x.fault(0));
        CHECK.due("fault(1)", NONE, x.fault(1));
        CHECK.due("about(3)", 3, x.about(3));
    }

    private static void tokens() {
        fault("Draw 1;", 1, 0);
        fault("draw\t1;", 1, 4);
        fault("draw 1\r;", 1, 6);
        fault("draw 1a;", 1, 5);
        fault("draw 12345;", 1, 5);
        fault("draw 00001;", 1, 5);
        fault("abcdefghi", 1, 0);
        fault("abcdefgh", 2, 0);
        fault("district abcdefghi mood 1;", 1, 9);
        fault("hall 4by 4;", 1, 5);
        fault("draw 1;#", 1, 7);
        fault("draw 1 #", 1, 7);
        fault("draw draw #", 2, 5);
        fault("draw \0;", 1, 5);
        fault("draw 1;\u00e1", 1, 7);
        fault("look face , near;", 1, 10);
        CHECK.senate("\n \nhall4 by\n4;district abcdefgh mood1;draw0001;look(face)+near;\n");
        CHECK.senate("");
        CHECK.senate("  \n");
    }

    private static void lines() {
        fault("hall", 2, 4);
        fault("hall   ", 2, 7);
        fault("hall 4 by 4", 2, 11);
        fault("hall 4 4;", 2, 7);
        fault("hall by;", 2, 5);
        fault("hall 1 by 1;hall 1 by 1;", 2, 12);
        fault("draw 1;hall 1 by 1;", 2, 7);
        fault("draw 1;draw 1;", 2, 7);
        fault("tooth 1 of 1;tooth 1 of 1;", 2, 13);
        fault("look 1;look 1;", 2, 7);
        fault("light 1;light 1;", 2, 8);
        fault("draw 1;;", 2, 7);
        fault("1", 2, 0);
        fault("name 1;", 2, 0);
        fault("mood 1;", 2, 0);
        fault("draw 1; x", 2, 8);
        fault("tooth 5 2;", 2, 8);
        fault("district a 1;", 2, 11);
        String district = "district a mood 1;";
        fault(district + "member b a face 1;", 2, 27);
        fault(district + "member b for a 1;", 2, 33);
        fault(district + "member b for a face 1 stoic;", 2, 45);
        fault(district + "member b for a face 1 at 1;", 2, 44);
        fault(district + "member b for a face 1 at 1 1 stoic 1;", 2, 47);
        fault(district + "member b for a face 1 stoic 1 stoic 1;", 2, 48);
        String four = district + "district b mood 1;district c mood 1;district d mood 1;";
        CHECK.senate(four);
        fault(four + "district e mood 1;", 2, 72);
        StringBuilder seven = new StringBuilder(district);
        for (char m = 'a'; m <= 'g'; m++) {
            seven.append("member ").append(m).append(" for a face 1;");
        }
        CHECK.due("seven", 7, CHECK.senate(seven.toString()).about(0));
        fault(seven + "member h for a face 1;", 2, 18 + 7 * 22);
    }

    private static void numbers() {
        fault("hall 0 by 1;", 4, 5);
        fault("hall 5 by 1;", 4, 5);
        fault("hall 1 by 0;", 4, 10);
        fault("hall 1 by 5;", 4, 10);
        fault("hall 5 by 5;", 4, 5);
        fault("district a mood 10;", 4, 16);
        fault("draw 1000;", 4, 5);
        fault("draw 9999", 4, 5);
        fault("tooth 101 of 1;", 4, 6);
        fault("tooth 100 of 0;", 4, 13);
        fault("tooth 100 of 10;", 4, 13);
        String district = "district a mood 9;";
        fault(district + "member b for a face 10;", 4, 38);
        fault(district + "member b for a face 9 stoic 10;", 4, 46);
        CHECK.senate("hall 1 by 1;district a mood 0;member b for a face 0 stoic 0 at 0 0;tooth 0 of 1;draw 0;");
        FaceSenate x = CHECK.senate("hall 1 by 4;district a mood 9;member b for a face 9 stoic 9;tooth 100 of 9;draw 999;");
        CHECK.due("columns", 1, x.about(2));
        CHECK.due("rows", 4, x.about(3));
        CHECK.due("mood", 9, x.district(0, 0));
        CHECK.due("stoic", 9, x.member(0, 3));
        CHECK.due("draw", 999, x.about(6));
    }

    private static void names() {
        fault("district a mood 1;district a mood 1;", 3, 27);
        fault("district mood mood 1;", 2, 9);
        fault("district 5 mood 1;", 2, 9);
        String reserved = "hall by district mood member for face stoic at look light tooth of draw or and not near beside "
                + "bright news step row column";
        for (String word : reserved.split(" ")) {
            fault("district " + word + " mood 1;", 2, 9);
            fault("district a mood 1;member " + word + " for a face 1;", 2, 25);
            fault("district a mood 1;member b for " + word + " face 1;", 2, 31);
        }
        fault("member a for b face 1;", 5, 13);
        fault("district a mood 1;member b for b face 1;", 5, 31);
        fault("district a mood 1;member b for a face 1;member b for a face 1;", 3, 47);
        FaceSenate x = CHECK.senate("district e mood 1;member e for e face 1;district one mood 2;member sum for one face 3;");
        CHECK.due("DISTRICT of the second", 1, x.member(1, 2));
    }

    private static void seats() {
        String two = "hall 2 by 3;district a mood 1;member b for a face 1 at 1 2;";
        CHECK.due("SEAT", 5, CHECK.senate(two).member(0, 1));
        fault(two + "member c for a face 1 at 1 2;", 3, 86);
        fault(two + "member c for a face 1 at 2 0;", 4, 84);
        fault(two + "member c for a face 1 at 0 3;", 4, 86);
        fault("district a mood 1;member b for a face 1 at 0 4;", 4, 45);
        FaceSenate x = CHECK.senate(two + "member c for a face 1;member d for a face 1 at 0 2;");
        CHECK.due("no SEAT", NONE, x.member(1, 1));
        CHECK.due("SEAT", 4, x.member(2, 1));
    }

    private static void formulas() {
        fault("look ;", 2, 5);
        fault("look", 2, 4);
        fault("look face", 2, 9);
        fault("look 1 1;", 2, 7);
        fault("look (face;", 2, 10);
        fault("look face);", 2, 9);
        fault("look face < near < 1;", 2, 17);
        fault("look face = near > 1;", 2, 17);
        fault("look - 1;", 2, 5);
        fault("look 1 + not 1;", 2, 9);
        fault("look 1 + ;", 2, 9);
        fault("look not ;", 2, 9);
        fault("look not ; x", 2, 9);
        fault("look (1 + ;) x", 2, 10);
        fault("look 1 + ; x", 2, 9);
        fault("look ; x", 2, 5);
        fault("look mood;", 2, 5);
        fault("look a;", 2, 5);
        fault("look 1 and or 1;", 2, 11);
        fault("light 12345;", 1, 6);
        CHECK.senate("look (face < near) < 1;");
        CHECK.senate("look not not face = 1 and not 2 or 1;");
    }

    private static void nesting() {
        CHECK.senate("look (((((((face)))))));");
        fault("look ((((((((face))))))));", 2, 12);
        CHECK.senate("look not not not not not not not face;");
        fault("look not not not not not not not not face;", 2, 33);
        CHECK.senate("look not (not (not (not face + 1)));");
        fault("look not (not (not (not (face))));", 2, 24);
        fault("look (((((((not face)))))));", 2, 12);
        fault("look not not not not not not not (face);", 2, 33);
        CHECK.senate("look (((((((face))))))) + (((((((face))))))) + (1);");
        CHECK.senate("look not not not not not not not 1 and not not not not not not not 1;");
    }

    private static void units() {
        String thirty = "1+1+1+1+1+1+1+1+1+1+1+1+1+1+1+1+1+1+1+1+1+1+1+1+1+1+1+1+1+1";
        CHECK.due("units", 30, CHECK.senate("look " + thirty + ";").about(12));
        FaceSenate x = CHECK.senate("look " + thirty + ";light " + thirty + ";");
        CHECK.due("units of both", 60, x.about(12));
        fault("look " + thirty + "+1;", 2, 65);
        fault("light " + thirty + "+(1);", 2, 66);
        fault("light " + thirty + "+#;", 1, 66);
        String inside = "(" + thirty.substring(2) + ")";
        CHECK.due("units within", 30, CHECK.senate("look " + inside + ";").about(12));
        fault("look " + inside + "+1;", 2, 65);
        fault("look (" + thirty + ");", 2, 64);
    }

    /** What comes of a formula is seen by light, which is told by row and column, or by look. */
    private static void worths() {
        worth("7", 7);
        worth("10", 9);
        worth("0 - 3", 0);
        worth("9 - 3 - 2", 4);
        worth("2 + 3 * 2", 8);
        worth("(2 + 1) * 3", 9);
        worth("7 / 2", 3);
        worth("7 % 4", 3);
        worth("7 / 0", 0);
        worth("7 % 0 + 2", 2);
        worth("(0 - 7) / 2 + 6", 3);
        worth("(0 - 7) % 4 + 6", 3);
        worth("8 / 2 / 2", 2);
        worth("8 - 9 % 5 * 2", 0);
        worth("(2 < 3) * 4 + (3 < 3) * 2 + (4 < 3)", 4);
        worth("(2 > 3) * 4 + (3 > 3) * 2 + (4 > 3)", 1);
        worth("(2 = 3) * 4 + (3 = 3) * 2 + (4 = 3)", 2);
        worth("5 and 6", 1);
        worth("5 and 0", 0);
        worth("0 or 7", 1);
        worth("0 or 0", 0);
        worth("1 or 0 and 0", 1);
        worth("(1 or 0) and 0", 0);
        worth("not 5", 0);
        worth("not 0", 1);
        worth("not not 5", 1);
        worth("not 1 = 2", 1);
        worth("not 1 and 0", 0);
        worth("not 0 or 1", 1);
        worth("(not 2 < 1) + 2", 3);
        // The product wraps: 404,092,751.
        worth("9999 * 9999 * 47 / 9999 / 9999", 4);
        // The least int, by -1.
        worth("8192 * 8192 * 32 / (0 - 1)", 0);
        worth("8192 * 8192 * 32 % (0 - 1) + 3", 3);
        worth("8192 * 8192 * 32 - 1 > 0", 1);
        worth("face + near + beside + bright + stoic + news + 3", 3);
        worth("row * 2 + column", 2 * 2 + 1);
        FaceSenate x = CHECK.senate("district d mood 1;member m for d face 5;light step;");
        x.step();
        x.step();
        CHECK.due("light by step", 2, x.seat(3, 1));
        x.undo();
        CHECK.due("light by step, undone", 1, x.seat(3, 1));
    }

    private static void worth(String formula, int want) {
        FaceSenate x = CHECK.senate("hall 3 by 3;district d mood 1;member m for d face 5 at 1 2;light " + formula + ";");
        x.news(6);
        CHECK.due("light " + formula, want, x.seat(7, 1));
    }
}
