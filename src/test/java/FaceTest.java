import java.io.IOException;
import java.lang.reflect.Constructor;
import java.lang.reflect.Field;
import java.lang.reflect.Method;
import java.lang.reflect.Modifier;
import java.nio.file.Files;
import java.nio.file.Path;
import java.util.ArrayList;
import java.util.List;
import java.util.Set;
import java.util.TreeSet;
import java.util.regex.Matcher;
import java.util.regex.Pattern;

/** The document's face, and those rules of LANGUAGE.md that can be seen from outside or from the words. */
public final class FaceTest {
    private static final Path SOURCE = Path.of("src/main/java/PricedCopies.java");
    private static final Set<String> CONSTANTS = Set.of(
        "NONE=-1", "UNKNOWN=-1001", "OUTSIDE=-1002", "STATE=-1003", "FULL=-1004");
    private static final Set<String> METHODS = Set.of(
        "int letter(int)", "int blank()", "int fault(boolean)", "int text()", "int decode()", "int priced()",
        "int price(int,int)", "int priceOf(int)", "int round()", "int rest(int)", "int at(int)",
        "int longest(int,int)", "int chain(int,int)", "int cheapest(int)", "int codeOf(int)",
        "int greedy(int)", "int parts(int,int)", "int count(int)", "long digest()");
    private static final String[] FORBIDDEN = {
        "throw", "throws", "try", "catch", "finally", "synchronized", "assert", "import", "package",
        "->", "::", "Exact", "System", "Thread", "Random", "hashCode", "toString", "volatile", "native"};

    private static int wrong = 0;

    public static void main(String[] args) throws Exception {
        face();
        nestedClasses();
        words();
        System.out.println(wrong == 0 ? "the face is as told" : wrong + " faults of the face");
        if (wrong != 0) System.exit(1);
    }

    private static void fault(String what) {
        wrong++;
        System.out.println(what);
    }

    private static void face() throws IllegalAccessException {
        Class<?> c = PricedCopies.class;
        if (!Modifier.isPublic(c.getModifiers()) || !Modifier.isFinal(c.getModifiers())) fault("not public final");
        Set<String> constants = new TreeSet<>();
        for (Field f : c.getDeclaredFields()) {
            int m = f.getModifiers();
            if (Modifier.isStatic(m) && !Modifier.isFinal(m)) fault("static state: " + f.getName());
            if (Modifier.isPrivate(m)) continue;
            if (!Modifier.isPublic(m) || !Modifier.isStatic(m) || f.getType() != int.class) fault("field " + f.getName());
            else constants.add(f.getName() + "=" + f.getInt(null));
        }
        if (!constants.equals(CONSTANTS)) fault("constants " + constants);
        Set<String> methods = new TreeSet<>();
        for (Method m : c.getDeclaredMethods()) {
            if (Modifier.isPrivate(m.getModifiers())) continue;
            if (!Modifier.isPublic(m.getModifiers()) || Modifier.isStatic(m.getModifiers())) fault("method " + m);
            methods.add(signature(m));
        }
        if (!methods.equals(METHODS)) fault("methods " + methods);
        Constructor<?>[] constructors = c.getDeclaredConstructors();
        if (constructors.length != 1 || constructors[0].getParameterCount() != 0
            || !Modifier.isPublic(constructors[0].getModifiers())) fault("constructors");
    }

    private static String signature(Method m) {
        List<String> types = new ArrayList<>();
        for (Class<?> p : m.getParameterTypes()) types.add(p.getSimpleName());
        return m.getReturnType().getSimpleName() + " " + m.getName() + "(" + String.join(",", types) + ")";
    }

    private static void nestedClasses() {
        Set<String> publicNames = new TreeSet<>();
        for (String m : METHODS) publicNames.add(m.substring(m.indexOf(' ') + 1, m.indexOf('(')));
        List<Class<?>> all = new ArrayList<>(List.of(PricedCopies.class.getDeclaredClasses()));
        if (all.size() + 1 > 12) fault("too many classes");
        all.add(PricedCopies.class);
        for (Class<?> c : all) {
            boolean outer = c == PricedCopies.class;
            if (!outer && !Modifier.isStatic(c.getModifiers())) fault("not static: " + c);
            if (c.getDeclaredClasses().length > 0 && !outer) fault("classes inside " + c);
            int fields = 0;
            for (Field f : c.getDeclaredFields()) if (!Modifier.isStatic(f.getModifiers())) fields++;
            if (fields > 20) fault("too many fields: " + c);
            for (Method m : c.getDeclaredMethods()) {
                if (m.getParameterCount() > 7) fault("too many parameters: " + m);
                boolean ofFace = outer && Modifier.isPublic(m.getModifiers());
                if (!ofFace && publicNames.contains(m.getName())) fault("bears a public name: " + m);
            }
        }
    }

    private static void words() throws IOException {
        String source = Files.readString(SOURCE);
        for (int i = 0; i < source.length(); i++) {
            if (source.charAt(i) > 126) fault("a sign beyond 126 at " + i);
        }
        String code = source.replaceAll("(?s)/\\*.*?\\*/", " ").replaceAll("//[^\\n]*", " ");
        for (String word : FORBIDDEN) {
            boolean isWord = Character.isLetter(word.charAt(0)) && !word.equals("Exact");
            Matcher m = Pattern.compile(isWord ? "\\b" + word + "\\b" : Pattern.quote(word)).matcher(code);
            if (m.find()) fault("forbidden: " + word);
        }
        if (!Pattern.compile("public final class PricedCopies \\{").matcher(code).find()) fault("no class line");
    }
}
