import java.util.ArrayList;
import java.util.List;
import java.util.Random;

/** Random texts of SENATES, most of them sound, some with a FAULT or more. */
final class Texts {
    private static final String[] SEEN =
        {"face", "near", "beside", "bright", "stoic", "news", "step", "row", "column"};
    private static final String[] WORDS = {"hall", "by", "district", "mood", "member", "for", "face", "stoic", "at",
        "look", "light", "tooth", "of", "draw", "or", "and", "not", "near", "beside", "bright", "news", "step", "row",
        "column", ";", "(", ")", "<", ">", "=", "+", "-", "*", "/", "%", "0", "1", "7", "10", "100", "999", "1000",
        "9999", "12345", "4x", "abcdefgh", "abcdefghi", "a", "b", "e", "#", "A", "_", "\t", "\u00e9", "\0"};

    private final Random random;
    private final List<String> tokens = new ArrayList<>();
    private int columns = 4;
    private int rows = 4;
    private int units = 0;

    Texts(Random random) {
        this.random = random;
    }

    String text() {
        lines();
        int sort = random.nextInt(10);
        for (int i = 0; sort >= 7 && i < random.nextInt(3) + 1; i++) {
            spoil();
        }
        StringBuilder text = new StringBuilder();
        for (int i = 0; i < tokens.size(); i++) {
            String t = tokens.get(i);
            boolean apart = text.length() > 0 && Character.isLetterOrDigit(text.charAt(text.length() - 1))
                    && !t.isEmpty() && Character.isLetterOrDigit(t.charAt(0));
            if (apart || random.nextInt(6) == 0) {
                text.append(random.nextInt(4) == 0 ? "\n" : " ");
            }
            text.append(t);
        }
        if (sort == 6 && text.length() > 0) {
            int at = random.nextInt(text.length());
            if (random.nextBoolean()) {
                text.deleteCharAt(at);
            } else {
                text.setCharAt(at, (char) random.nextInt(256));
            }
        }
        if (text.length() > 1500) {
            text.setLength(1500);
        }
        return text.toString();
    }

    private void spoil() {
        int at = random.nextInt(tokens.size() + 1);
        switch (random.nextInt(4)) {
            case 0 -> tokens.add(at, WORDS[random.nextInt(WORDS.length)]);
            case 1 -> {
                if (at < tokens.size()) {
                    tokens.remove(at);
                }
            }
            case 2 -> {
                if (at < tokens.size()) {
                    tokens.set(at, WORDS[random.nextInt(WORDS.length)]);
                }
            }
            default -> {
                while (tokens.size() > at) {
                    tokens.remove(tokens.size() - 1);
                }
            }
        }
    }

    private void put(String... some) {
        tokens.addAll(List.of(some));
    }

    private String number(int from, int to) {
        if (random.nextInt(150) == 0) {
            return String.valueOf(random.nextInt(1200));
        }
        String n = String.valueOf(from + random.nextInt(to - from + 1));
        return random.nextInt(20) == 0 && n.length() < 4 ? "0" + n : n;
    }

    private void lines() {
        if (random.nextInt(3) > 0) {
            columns = 1 + random.nextInt(4);
            rows = 1 + random.nextInt(4);
            put("hall", String.valueOf(columns), "by", String.valueOf(rows), ";");
        }
        int districts = random.nextInt(20) == 0 ? random.nextInt(6) : 1 + random.nextInt(4);
        int members = random.nextInt(20) == 0 ? 8 : random.nextInt(8);
        for (int d = 0; d < districts; d++) {
            put("district", "d" + (char) ('a' + d), "mood", number(0, 9), ";");
        }
        List<Integer> free = new ArrayList<>();
        for (int s = 0; s < columns * rows; s++) {
            free.add(s);
        }
        boolean crowded = random.nextBoolean();
        for (int m = 0; m < members && districts > 0; m++) {
            member(m, districts, free, crowded);
        }
        List<String> rest = new ArrayList<>(List.of("look", "light", "tooth", "draw"));
        while (!rest.isEmpty()) {
            String line = rest.remove(random.nextInt(rest.size()));
            if (random.nextInt(5) > 0) {
                line(line);
            }
            if (random.nextInt(150) == 0) {
                line(line);
            }
        }
    }

    private void member(int m, int districts, List<Integer> free, boolean crowded) {
        String name = random.nextInt(4) == 0 ? "d" + (char) ('a' + m) : "m" + (char) ('a' + m);
        if (random.nextInt(150) == 0) {
            name = "ma";
        }
        put("member", name, "for", "d" + (char) ('a' + random.nextInt(districts)), "face", number(0, 9));
        if (random.nextBoolean()) {
            put("stoic", number(0, 9));
        }
        if (!free.isEmpty() && random.nextInt(8) > 0) {
            int seat = free.remove(crowded ? 0 : random.nextInt(free.size()));
            if (random.nextInt(100) == 0) {
                free.add(seat);
            }
            put("at", String.valueOf(seat % columns), String.valueOf(seat / columns));
        }
        put(";");
    }

    private void line(String line) {
        put(line);
        switch (line) {
            case "tooth" -> put(number(0, 100), "of", number(1, 9));
            case "draw" -> put(number(0, 999));
            default -> {
                units = 0;
                int sort = random.nextInt(6);
                if (sort == 0) {
                    nested();
                } else if (sort == 1 && line.equals("look")) {
                    put("(", "face", "*", "2", "+", "near", ")", "/", "(", "beside", "+", "2", ")", "+", "(", "news",
                            ">", "stoic", ")", "-", "(", "news", "<", "row", ")");
                } else {
                    either(1 + random.nextInt(4));
                }
            }
        }
        put(";");
    }

    /** Units ( e ) and nots within one another, about as deep as can be. */
    private void nested() {
        int depth = 5 + random.nextInt(4);
        int open = 0;
        for (int i = 0; i < depth; i++) {
            if (random.nextBoolean()) {
                put("not");
            } else {
                put("(");
                open++;
            }
        }
        put(SEEN[random.nextInt(SEEN.length)]);
        for (int i = 0; i < open; i++) {
            put(")");
        }
        if (random.nextBoolean()) {
            put("+", "face");
        }
    }

    private void either(int depth) {
        both(depth);
        while (random.nextInt(8) == 0) {
            put("or");
            both(depth);
        }
    }

    private void both(int depth) {
        one(depth);
        while (random.nextInt(8) == 0) {
            put("and");
            one(depth);
        }
    }

    private void one(int depth) {
        if (random.nextInt(10) == 0) {
            put("not");
            one(depth);
            return;
        }
        sum(depth);
        if (random.nextInt(5) == 0) {
            put(new String[] {"<", ">", "="}[random.nextInt(3)]);
            sum(depth);
        }
    }

    private void sum(int depth) {
        term(depth);
        while (random.nextInt(2) == 0 && units < 33) {
            put(random.nextBoolean() ? "+" : "-");
            term(depth);
        }
    }

    private void term(int depth) {
        unit(depth);
        while (random.nextInt(3) == 0 && units < 33) {
            put(new String[] {"*", "/", "%"}[random.nextInt(3)]);
            unit(depth);
        }
    }

    private void unit(int depth) {
        units++;
        int sort = random.nextInt(7);
        if (sort == 0 && depth > 0) {
            put("(");
            either(depth - 1);
            put(")");
        } else if (sort < 3) {
            put(random.nextInt(6) == 0 ? number(0, 9999) : number(0, 9));
        } else {
            put(SEEN[random.nextInt(SEEN.length)]);
        }
    }
}
