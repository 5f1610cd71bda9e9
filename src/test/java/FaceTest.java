import java.io.IOException;
import java.lang.reflect.Constructor;
import java.lang.reflect.Field;
import java.lang.reflect.Method;
import java.lang.reflect.Modifier;
import java.nio.file.Files;
import java.nio.file.Path;
import java.util.ArrayList;
import java.util.List;
import java.util.Set;
import java.util.TreeSet;
import java.util.regex.Matcher;
import java.util.regex.Pattern;

/** The face of the class, and what of LANGUAGE.md can be seen from outside or from its words. */
public final class FaceTest {
    private static final Set<String> METHODS = Set.of("row/4", "clear/1", "table/2", "formula/3", "formulaOf/2",
        "node/5", "told/2", "run/1", "member/2", "worked/1", "fits/2", "rewrite/2", "sweep/2", "count/1");

    public static void main(String[] args) throws IOException {
        constants();
        members();
        classesInside();
        words();
        Check.end();
    }

    private static void constants() {
        Check.due("BAD", PlanRules.BAD, -1);
        Check.due("FULL", PlanRules.FULL, -2);
        Check.due("NO", PlanRules.NO, -3);
    }

    private static void members() {
        Check.holds("public and final", Modifier.isPublic(PlanRules.class.getModifiers())
            && Modifier.isFinal(PlanRules.class.getModifiers()));
        Set<String> seen = new TreeSet<>();
        Set<String> hidden = new TreeSet<>();
        for (Method method : PlanRules.class.getDeclaredMethods()) {
            boolean isPublic = Modifier.isPublic(method.getModifiers());
            Check.holds("public or private: " + method, isPublic || Modifier.isPrivate(method.getModifiers()));
            (isPublic ? seen : hidden).add(isPublic ? method.getName() + "/" + method.getParameterCount()
                : method.getName());
        }
        Check.holds("the methods of the document and no other: " + seen, seen.equals(new TreeSet<>(METHODS)));
        for (String name : METHODS) {
            Check.holds("no private " + name, !hidden.contains(name.substring(0, name.indexOf('/'))));
        }
        Constructor<?>[] made = PlanRules.class.getDeclaredConstructors();
        Check.due("constructors", made.length, 1);
        Check.holds("a public one without parameters",
            Modifier.isPublic(made[0].getModifiers()) && made[0].getParameterCount() == 0);
        Set<String> constants = new TreeSet<>();
        for (Field field : PlanRules.class.getDeclaredFields()) {
            if (!Modifier.isPrivate(field.getModifiers())) {
                constants.add(field.getName());
            }
        }
        Check.holds("the constants alone are open: " + constants,
            constants.equals(new TreeSet<>(Set.of("BAD", "FULL", "NO"))));
    }

    private static void classesInside() {
        List<Class<?>> classes = new ArrayList<>(List.of(PlanRules.class.getDeclaredClasses()));
        Check.holds("at most twelve classes", classes.size() < 12);
        classes.add(PlanRules.class);
        for (Class<?> one : classes) {
            if (one != PlanRules.class) {
                Check.holds("static: " + one, Modifier.isStatic(one.getModifiers()));
                Check.holds("not public or protected: " + one,
                    (one.getModifiers() & (Modifier.PUBLIC | Modifier.PROTECTED)) == 0);
            }
            int fields = 0;
            for (Field field : one.getDeclaredFields()) {
                boolean isStatic = Modifier.isStatic(field.getModifiers());
                fields += isStatic ? 0 : 1;
                Check.holds("static fields are final: " + field, !isStatic || Modifier.isFinal(field.getModifiers()));
            }
            Check.holds("some twenty fields: " + one, fields <= 20);
            for (Method method : one.getDeclaredMethods()) {
                Check.holds("seven parameters: " + method, method.getParameterCount() <= 7);
                Check.holds("nothing the compiler adds: " + method, !method.isSynthetic());
            }
        }
    }

    private static void words() throws IOException {
        String text = Files.readString(Path.of("src/main/java/PlanRules.java"));
        String code = text.replaceAll("(?s)/\\*.*?\\*/", " ").replaceAll("//[^\n]*", " ");
        for (String word : List.of("throw", "throws", "try", "catch", "finally", "synchronized", "assert", "package")) {
            Check.holds("no " + word, !Pattern.compile("\\b" + word + "\\b").matcher(code).find());
        }
        for (String sign : List.of("->", "::", "\"", "Exact", "equals", "hashCode", "toString")) {
            Check.holds("no " + sign, !code.contains(sign));
        }
        Matcher imports = Pattern.compile("import ([^;]+);").matcher(code);
        while (imports.find()) {
            Check.holds("import " + imports.group(1), imports.group(1).equals("java.util.Arrays"));
        }
    }
}
