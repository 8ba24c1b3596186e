import java.io.IOException;
import java.lang.reflect.Constructor;
import java.lang.reflect.Field;
import java.lang.reflect.Method;
import java.lang.reflect.Modifier;
import java.nio.file.Files;
import java.nio.file.Path;
import java.util.ArrayList;
import java.util.Arrays;
import java.util.List;
import java.util.Set;
import java.util.TreeSet;
import java.util.regex.Matcher;
import java.util.regex.Pattern;

/** The face is that of the document, no more and no less, in its order and under its headings. */
public final class FaceTest {
    private static final String[] FACE = {
        "int things(int)", "int worth(int,int,int)", "int taste(int,int)", "int set(int,int)", "int now(int)",
        "int worthOf(int,int)", "int say(int)", "int wipe()", "int fault()", "int enact()",
        "int kept(int)", "int makes()", "int extreme(int,int,int)", "int harmed()", "int grant()", "int undo()",
        "int comma(int)", "int term(int)", "int wording(int,int)", "int most(int,int)", "int row(int,int,int)",
        "int lamps(int,int,int)", "int sixths(int,int,int,int)", "int votes()", "int agreed(int)", "int paid()",
        "int picked(int)", "int fit(int)", "int came(int,int)", "int letters(int)", "int forget()",
        "long drunk(int,int)", "long mean(int,int)", "int year(int,int,int)", "int image(int)", "int restore(int)",
        "int told(int)"};
    private static final String[] CONSTANTS = {
        "int NONE -6", "int UNKNOWN -1", "int OUTSIDE -2", "int STATE -3", "int FULL -4", "int NO -5",
        "long LOST -1000000000000000000"};
    private static int wrong = 0;

    private static void check(boolean good, String what) {
        if (!good) {
            wrong++;
            System.out.println(what);
        }
    }

    private static String told(Method m) {
        StringBuilder text = new StringBuilder(m.getReturnType().getName() + " " + m.getName() + "(");
        Class<?>[] types = m.getParameterTypes();
        for (int i = 0; i < types.length; i++) text.append(i > 0 ? "," : "").append(types[i].getName());
        return text.append(")").toString();
    }

    private static void methods() {
        Set<String> due = new TreeSet<>(Arrays.asList(FACE));
        Set<String> names = new TreeSet<>();
        for (String f : FACE) names.add(f.substring(f.indexOf(' ') + 1, f.indexOf('(')));
        Set<String> found = new TreeSet<>();
        for (Method m : WishLamp.class.getDeclaredMethods()) {
            if (Modifier.isPublic(m.getModifiers())) {
                found.add(told(m));
                check(!Modifier.isStatic(m.getModifiers()), m.getName() + " is static");
            } else if (!m.isSynthetic()) {
                check(Modifier.isPrivate(m.getModifiers()), m.getName() + " is not private");
                check(!names.contains(m.getName()), m.getName() + " bears a public method's name");
            }
        }
        check(found.equals(due), "public methods are " + found);
        for (Class<?> c : WishLamp.class.getDeclaredClasses()) {
            check(Modifier.isStatic(c.getModifiers()), c + " is not static");
            check(!Modifier.isPublic(c.getModifiers()) && !Modifier.isProtected(c.getModifiers()), c + " is open");
            for (Method m : c.getDeclaredMethods()) {
                check(!names.contains(m.getName()), c + "'s " + m.getName() + " bears a public method's name");
            }
        }
    }

    private static void fields() throws IllegalAccessException {
        Set<String> found = new TreeSet<>();
        for (Field f : WishLamp.class.getDeclaredFields()) {
            int mods = f.getModifiers();
            if (Modifier.isPublic(mods)) {
                check(Modifier.isStatic(mods) && Modifier.isFinal(mods), f + " is no constant");
                found.add(f.getType().getName() + " " + f.getName() + " " + f.get(null));
            } else {
                check(Modifier.isPrivate(mods), f + " is not private");
            }
            check(!Modifier.isStatic(mods) || Modifier.isFinal(mods), f + " is static and not final");
        }
        check(found.equals(new TreeSet<>(Arrays.asList(CONSTANTS))), "constants are " + found);
    }

    /** The lines of the document's face: constants, the constructor, methods. */
    private static List<String> facePrinted(String document) {
        List<String> lines = new ArrayList<>();
        int from = document.indexOf("public final class WishLamp {\n");
        int to = document.indexOf("\n}\n", from);
        check(from >= 0 && to > from, "the document has no face");
        if (from < 0 || to <= from) return lines;
        for (String line : document.substring(from, to).split("\n")) lines.add(line.trim());
        return lines;
    }

    /** The same lines as they must stand in the text of the class: what has a body ends in a brace there. */
    private static List<String> faceDue(String document) {
        List<String> due = new ArrayList<>();
        for (String line : facePrinted(document)) {
            boolean hasBody = line.contains("(") && !line.startsWith("public static");
            due.add(hasBody ? line.replace(";", " {") : line);
            Matcher m = Pattern.compile("(\\w+)\\(").matcher(line);
            String heading = m.find() ? headingAhead(document, m.group(1)) : "";
            if (!heading.isEmpty()) due.add(due.size() - 1, "// " + heading);
        }
        return due;
    }

    /** What the interface says ahead of this call, if it is the first one there. */
    private static String headingAhead(String document, String call) {
        Matcher m = Pattern.compile("Ahead of the calls `" + call + "`.* the interface says: (---- \\d [^.]*)\\.").matcher(document);
        return m.find() ? m.group(1) : "";
    }

    private static void order(String document, String text) {
        List<String> found = new ArrayList<>();
        for (String line : text.split("\n")) {
            String t = line.trim();
            if (t.startsWith("public ") || t.matches("// ---- \\d .*")) found.add(t);
        }
        List<String> due = faceDue(document);
        check(due.size() == 1 + 2 + 1 + FACE.length + 4, "the document's face has " + due.size() + " lines");
        check(found.equals(due), "the face in the text is " + found + ", due is " + due);
        int methods = 0;
        for (String line : due) {
            if (!line.startsWith("public int ") && !line.startsWith("public long ")) continue;
            String told = line.replaceAll("public | \\{", "").replaceAll(" \\w+([,)])", "$1").replace(", ", ",");
            check(methods < FACE.length && FACE[methods].equals(told), "the document has " + told);
            methods++;
        }
    }

    public static void main(String[] args) throws IllegalAccessException, IOException {
        check(Modifier.isPublic(WishLamp.class.getModifiers()), "the class is not public");
        check(Modifier.isFinal(WishLamp.class.getModifiers()), "the class is not final");
        Constructor<?>[] makers = WishLamp.class.getDeclaredConstructors();
        check(makers.length == 1 && makers[0].getParameterCount() == 0
            && Modifier.isPublic(makers[0].getModifiers()), "there is not just the one constructor");
        methods();
        fields();
        order(Files.readString(Path.of("../shared/DOC.md")), Files.readString(Path.of("src/main/java/WishLamp.java")));
        System.out.println(wrong == 0 ? "the face is as due" : wrong + " faults in the face");
        if (wrong != 0) System.exit(1);
    }
}
