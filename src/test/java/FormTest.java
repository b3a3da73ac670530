import java.lang.management.ManagementFactory;
import java.lang.reflect.Constructor;
import java.lang.reflect.Field;
import java.lang.reflect.Member;
import java.lang.reflect.Method;
import java.lang.reflect.Modifier;
import java.nio.file.Files;
import java.nio.file.Path;
import java.util.HashSet;
import java.util.List;
import java.util.Set;
import java.util.TreeSet;
import java.util.regex.Matcher;
import java.util.regex.Pattern;

/** The form of the program, by shared/LANGUAGE.md, as far as it can be seen from outside. */
public final class FormTest {
    private static final Path SOURCE = Path.of("src/main/java/FaceSenate.java");
    private static final Path DOCUMENT = Path.of("../shared/DOC.md");
    private static final Check CHECK = new Check();

    public static void main(String[] args) throws Exception {
        Set<String> due = faceOfTheDocument();
        CHECK.due("methods in the document's face", 45, due.size());
        face(due);
        Set<String> taken = new HashSet<>();
        for (String method : due) {
            taken.add(method.replaceAll("^\\w+ |\\(.*", ""));
        }
        classes(taken);
        source();
        methodLengths();
        room();
        CHECK.end("FormTest");
    }

    private static void refuse(String what, boolean is) {
        CHECK.due(what, false, is);
    }

    /** The methods that the document's public face shows, as "int feed(int,int,int,int,int)". */
    private static Set<String> faceOfTheDocument() throws Exception {
        String text = Files.readString(DOCUMENT);
        String block = text.substring(text.indexOf("public final class FaceSenate {"));
        block = block.substring(0, block.indexOf("```"));
        Set<String> face = new TreeSet<>();
        Matcher method = Pattern.compile("public (\\w+ \\w+)\\(([^)]*)\\);").matcher(block);
        while (method.find()) {
            face.add(method.group(1) + "(" + method.group(2).replaceAll(" \\w+(, )?", ",").replaceAll(",$", "") + ")");
        }
        return face;
    }

    private static String head(Method m) {
        StringBuilder s = new StringBuilder(m.getReturnType().getName()).append(' ').append(m.getName()).append('(');
        for (Class<?> type : m.getParameterTypes()) {
            s.append(s.charAt(s.length() - 1) == '(' ? "" : ",").append(type.getName());
        }
        return s.append(')').toString();
    }

    private static void face(Set<String> want) {
        Set<String> got = new TreeSet<>();
        for (Method m : FaceSenate.class.getDeclaredMethods()) {
            if (Modifier.isPublic(m.getModifiers())) {
                refuse(m + " is static or throws", Modifier.isStatic(m.getModifiers()) || m.getExceptionTypes().length > 0);
                got.add(head(m));
            } else {
                refuse(m + " is not private", !Modifier.isPrivate(m.getModifiers()));
            }
        }
        refuse("face " + got + " is not " + want, !want.equals(got));
        refuse("not public and final", FaceSenate.class.getModifiers() != (Modifier.PUBLIC | Modifier.FINAL));
        Constructor<?>[] made = FaceSenate.class.getDeclaredConstructors();
        refuse("constructors", made.length != 1 || made[0].getParameterCount() != 0
                || !Modifier.isPublic(made[0].getModifiers()));
        CHECK.due("NONE", -1, FaceSenate.NONE);
        for (Field f : FaceSenate.class.getDeclaredFields()) {
            int seen = f.getName().equals("NONE") ? Modifier.PUBLIC : Modifier.PRIVATE;
            refuse(f + " is seen from outside, or is not", (f.getModifiers() & seen) == 0);
        }
    }

    private static void classes(Set<String> taken) {
        Class<?>[] inside = FaceSenate.class.getDeclaredClasses();
        refuse("too many classes", inside.length + 1 > 12);
        for (Class<?> c : inside) {
            refuse(c + " is not static", !Modifier.isStatic(c.getModifiers()));
            refuse(c + " is seen from outside", (c.getModifiers() & (Modifier.PUBLIC | Modifier.PROTECTED)) != 0);
            bounds(c);
            for (Method m : c.getDeclaredMethods()) {
                refuse(m + " bears the name of a public one", taken.contains(m.getName()));
            }
        }
        bounds(FaceSenate.class);
        for (Method m : FaceSenate.class.getDeclaredMethods()) {
            refuse(m + " bears the name of a public one",
                    Modifier.isPrivate(m.getModifiers()) && taken.contains(m.getName()));
        }
    }

    private static void bounds(Class<?> c) {
        int fields = 0;
        for (Field f : c.getDeclaredFields()) {
            fields += Modifier.isStatic(f.getModifiers()) ? 0 : 1;
            refuse(f + " is static and not final", (f.getModifiers() & (Modifier.STATIC | Modifier.FINAL)) == Modifier.STATIC);
        }
        refuse(c + " has " + fields + " fields", fields > 20);
        for (Method m : c.getDeclaredMethods()) {
            parameters(m, m.getParameterCount());
        }
        for (Constructor<?> k : c.getDeclaredConstructors()) {
            parameters(k, k.getParameterCount());
        }
    }

    private static void parameters(Member m, int count) {
        refuse(m + " has " + count + " parameters", count > 7);
    }

    private static String code() throws Exception {
        String source = Files.readString(SOURCE);
        return source.replaceAll("(?s)/\\*.*?\\*/", "").replaceAll("//[^\n]*", "")
                .replaceAll("\"[^\"\n]*\"", "TEXT").replaceAll("'[^'\n]*'", "SIGN");
    }

    private static void source() throws Exception {
        String code = code();
        for (String word : List.of("throw", "throws", "try", "catch", "finally", "synchronized", "assert", "package",
                "equals", "hashCode", "toString", "Object", "Random", "System.in", "System.out", "Thread", "double",
                "float", "new Integer", "yield")) {
            refuse("'" + word + "' is used", Pattern.compile("\\b" + Pattern.quote(word) + "\\b").matcher(code).find());
        }
        refuse("'->' is used", code.contains("->"));
        refuse("'::' is used", code.contains("::"));
        refuse("a text is joined by +", Pattern.compile("TEXT\\s*\\+|\\+\\s*TEXT").matcher(code).find());
        refuse("while", Pattern.compile("\\bwhile\\b").matcher(code).find());
        Matcher imports = Pattern.compile("import ([^;]+);").matcher(code);
        while (imports.find()) {
            refuse("import " + imports.group(1), !imports.group(1).equals("java.util.Arrays"));
        }
        Matcher system = Pattern.compile("\\b(System|Arrays|Math|Integer|Long)\\.(\\w+)").matcher(code);
        Set<String> allowed = Set.of("System.arraycopy", "Arrays.fill", "Math.max", "Math.min", "Math.abs",
                "Integer.bitCount");
        while (system.find()) {
            refuse(system.group() + " is used", !allowed.contains(system.group()));
        }
        refuse("a sign above 127", !Files.readString(SOURCE).chars().allMatch(c -> c < 128));
    }

    private static void methodLengths() throws Exception {
        int length = 0;
        boolean inside = false;
        for (String line : Files.readAllLines(SOURCE)) {
            boolean begins = line.matches("( {4}| {8})[a-zA-Z].*\\) \\{") && !line.contains("class ");
            if (begins) {
                inside = true;
                length = 0;
            }
            length++;
            if (inside && line.matches("( {4}| {8})\\}")) {
                refuse("a method of " + length + " lines", length > 60);
                inside = false;
            }
        }
    }

    /** No call makes an object: all rows are made in constructors. */
    private static void room() {
        com.sun.management.ThreadMXBean threads = (com.sun.management.ThreadMXBean) ManagementFactory.getThreadMXBean();
        String text = "district a mood 5;member a for a face 1 at 0 0;member b for a face 2 at 1 0;"
                + "member c for a face 3 at 2 0;member d for a face 4 at 0 1;look face + near / 2 - news;light row + step;";
        FaceSenate x = CHECK.senate(text);
        dearest(x, text);
        long id = Thread.currentThread().getId();
        long before = threads.getThreadAllocatedBytes(id);
        for (int i = 0; i < 20; i++) {
            dearest(x, text);
        }
        long made = threads.getThreadAllocatedBytes(id) - before;
        refuse("calls made " + made + " bytes", made > 4096);
    }

    private static void dearest(FaceSenate x, String text) {
        Check.tell(x, text);
        CHECK.due("senate()", 4, x.senate());
        for (int i = 0; i < 7; i++) {
            x.step();
            x.news(i);
            x.sit(i, i + 1);
            x.change(i, 0);
            x.unseat(i);
            x.undo();
            x.redo();
            x.looks(6, i, 3, true);
            x.image(i);
            x.back(i);
            x.member(i, i);
            x.place(i, 0);
            x.sample(i, 0);
            x.chain(0, i);
            x.parties(i, 0);
            x.about(i);
        }
        x.groups();
        x.move(0);
        x.settled();
        x.will(0, 60);
        x.ahead(60);
        x.alike();
        x.unrest(60);
        x.sways(0, 9, 20);
        x.brightest();
        x.least(99, 20);
        x.best(20);
        x.odds(1, 0);
        x.moved(0);
        x.key();
        x.fits(9);
        x.ask(6, 0, 9);
    }
}
