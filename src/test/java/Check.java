/** What the tests share: objects with a told SENATE, and the count of answers that are not as due. */
final class Check {
    private int wrong = 0;

    void due(String call, long want, long got) {
        if (got != want) {
            wrong++;
            System.out.println(call + " answered " + got + ", due is " + want);
        }
    }

    void due(String call, boolean want, boolean got) {
        due(call, want ? 1 : 0, got ? 1 : 0);
    }

    void end(String name) {
        System.out.println(name + (wrong == 0 ? ": all as due" : ": " + wrong + " not as due"));
        if (wrong != 0) {
            System.exit(1);
        }
    }

    /** A new object whose SENATE is told by this text. */
    FaceSenate senate(String text) {
        FaceSenate x = new FaceSenate();
        tell(x, text);
        x.senate();
        due("fault(0) of \"" + text + "\"", 0, x.fault(0));
        return x;
    }

    /** The text comes behind what is on the TAPE. */
    static void tell(FaceSenate x, String text) {
        int before = x.about(11);
        for (int i = 0; i < text.length(); i += 20) {
            x.feed(four(text, i), four(text, i + 4), four(text, i + 8), four(text, i + 12), four(text, i + 16));
        }
        x.end(before + text.length());
    }

    static int four(String text, int from) {
        int number = 0;
        for (int i = from; i < from + 4; i++) {
            number = number << 8 | (i < text.length() ? text.charAt(i) : 0);
        }
        return number;
    }
}
