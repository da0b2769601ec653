import java.lang.reflect.Constructor;
import java.lang.reflect.Field;
import java.lang.reflect.Method;
import java.lang.reflect.Modifier;
import java.nio.file.Files;
import java.nio.file.Path;
import java.util.ArrayList;
import java.util.Arrays;
import java.util.List;
import java.util.TreeSet;
import java.util.regex.Matcher;
import java.util.regex.Pattern;

/** The public face is the document's and no more, and the source keeps to the rules of LANGUAGE.md that can be looked for. */
public final class FaceTest {
    private static final String[] METHODS = {
        "int say(int)", "int wipe()", "int fault()", "int edge()", "int erase(int)", "int told(int,int)",
        "int rule(int,int)", "int stem(int,int)", "int kind(int,int)", "int dots(int,int)", "int grows(int,int)",
        "int fit(int,int)", "long distortion(int)", "int why(int,int)", "int best(int)", "int place(int,int)",
        "int image(int)", "int restore(int)", "int count(int)"};
    private static final String[] CONSTANTS = {"NONE -6", "UNKNOWN -1", "OUTSIDE -2", "STATE -3", "FULL -4", "NO -5",
        "GONE -10000000"};
    private static final String[] FORBIDDEN = {"\\bthrows?\\b", "\\btry\\b", "\\bcatch\\b", "\\bfinally\\b",
        "\\bsynchronized\\b", "\\bassert\\b", "_VALUE\\b", "\\bimport\\b", "\\bpackage\\b", "->", "::", "\\w+Exact\\b", "\\bString\\b",
        "\\bObject\\b", "\\bSystem\\.(?!arraycopy)\\w+", "\\bnew \\w+\\([^)]*\\)\\s*\\{", "\\bprotected\\b", "\\bequals\\b",
        "\\bhashCode\\b", "\\btoString\\b", "[^\\x00-\\x7e]"};
    private static final int MOST_LINES = 60;

    private final Check check = new Check();

    public static void main(String[] args) throws Exception {
        FaceTest t = new FaceTest();
        t.face();
        t.insides();
        t.source(Files.readString(Path.of(args.length > 0 ? args[0] : "src/main/java/StemDots.java")));
        t.check.end("FaceTest");
    }

    private void face() throws Exception {
        int of = StemDots.class.getModifiers();
        check.holds("StemDots is public and final", Modifier.isPublic(of) && Modifier.isFinal(of));
        TreeSet<String> methods = new TreeSet<>();
        for (Method m : StemDots.class.getDeclaredMethods()) {
            if (!Modifier.isPrivate(m.getModifiers())) {
                methods.add(m.getReturnType() + " " + m.getName() + "("
                    + String.join(",", Arrays.stream(m.getParameterTypes()).map(Class::getName).toList()) + ")");
                check.holds(m + " is public, and no more", m.getModifiers() == Modifier.PUBLIC);
            }
        }
        same("methods", methods, METHODS);
        TreeSet<String> constants = new TreeSet<>();
        for (Field f : StemDots.class.getDeclaredFields()) {
            if (!Modifier.isPrivate(f.getModifiers())) {
                check.holds(f + " is a constant", f.getModifiers() == (Modifier.PUBLIC | Modifier.STATIC | Modifier.FINAL));
                check.holds(f + " is an int", f.getType() == int.class);
                constants.add(f.getName() + " " + f.getInt(null));
            }
        }
        same("constants", constants, CONSTANTS);
        Constructor<?>[] made = StemDots.class.getDeclaredConstructors();
        check.due("constructors", made.length, 1);
        check.holds("it is public and takes nothing",
            Modifier.isPublic(made[0].getModifiers()) && made[0].getParameterCount() == 0);
    }

    private void same(String what, TreeSet<String> are, String[] due) {
        boolean alike = are.equals(new TreeSet<>(List.of(due)));
        if (!alike) {
            System.out.println(what + " are " + are);
        }
        check.holds(what + " are the document's", alike);
    }

    private void insides() {
        List<Class<?>> all = new ArrayList<>(List.of(StemDots.class.getDeclaredClasses()));
        check.holds("twelve classes at most", all.size() < 12);
        for (Class<?> inside : all) {
            int of = inside.getModifiers();
            check.holds(inside + " is static, not public", Modifier.isStatic(of) && !Modifier.isPublic(of));
            check.due("classes in " + inside, inside.getDeclaredClasses().length, 0);
        }
        all.add(StemDots.class);
        TreeSet<String> face = new TreeSet<>();
        for (String method : METHODS) {
            face.add(method.substring(method.indexOf(' ') + 1, method.indexOf('(')));
        }
        for (Class<?> each : all) {
            int fields = 0;
            for (Field f : each.getDeclaredFields()) {
                fields += Modifier.isStatic(f.getModifiers()) ? 0 : 1;
                check.holds(f + " is final, if static",
                    !Modifier.isStatic(f.getModifiers()) || Modifier.isFinal(f.getModifiers()));
            }
            check.holds(each + " has twenty fields at most", fields <= 20);
            for (Method m : each.getDeclaredMethods()) {
                check.holds(m + " takes seven at most", m.getParameterCount() <= 7);
                check.holds(m + " has no name of the face", each == StemDots.class
                    && Modifier.isPublic(m.getModifiers()) || !face.contains(m.getName()));
            }
        }
    }

    private void source(String text) {
        String code = text.replaceAll("(?s)/\\*.*?\\*/", "").replaceAll("//[^\n]*", "");
        for (String forbidden : FORBIDDEN) {
            Matcher found = Pattern.compile(forbidden).matcher(code);
            check.holds("the source is without " + forbidden, !found.find());
        }
        int begun = 0;
        String[] lines = text.split("\n");
        for (int n = 0; n < lines.length; n++) {
            if (lines[n].matches(" {4}( {4})?\\w.*\\) \\{")) {
                begun = n;
            }
            if (lines[n].matches(" {4}( {4})?\\}")) {
                check.holds("the method that ends in line " + (n + 1) + " is short", n - begun <= MOST_LINES);
            }
        }
    }
}
