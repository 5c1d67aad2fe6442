import java.io.IOException;
import java.lang.reflect.Field;
import java.lang.reflect.Method;
import java.lang.reflect.Modifier;
import java.nio.file.Files;
import java.nio.file.Path;
import java.util.ArrayList;
import java.util.Arrays;
import java.util.List;
import java.util.Set;
import java.util.TreeSet;
import java.util.regex.Matcher;
import java.util.regex.Pattern;

/** The public face, and the rules of the language that can be seen in the text; run in the project's folder. */
public final class FaceTest {
    private static final Due due = new Due("FaceTest");
    private static final String FACE = "feed/iiiii/i end/i/i works//i rules/i/i fault/i/i part/ii/i reads/iii/b step/iii/i where/iii/i "
            + "meet/ii/i breaks/iiii/i load/ii/i like/iii/i rival/i/i body//i knows/iii/i danced/iii/i out/iii/i leaves/ii/i "
            + "film/iii/i untell/i/b later/i/i borne/iii/i asked/iiiii/i can/iiii/i cost/iii/l cast/iii/i covers/iii/i "
            + "fall/iiii/i falls/iiii/i learn/iiii/i rehearse/ii/i rooms/i/b week/i/i hour/ii/i live/iii/i note/iii/i about/i/i";

    public static void main(String[] args) throws IOException {
        face();
        nested();
        text(Files.readString(Path.of("src/main/java/DanceCompany.java")));
        due.end();
    }

    private static String letter(Class<?> type) {
        return type.getName().substring(0, 1);
    }

    private static void face() {
        Set<String> got = new TreeSet<>();
        for (Method method : DanceCompany.class.getDeclaredMethods()) {
            int mods = method.getModifiers();
            if (Modifier.isPrivate(mods)) {
                continue;
            }
            StringBuilder s = new StringBuilder(method.getName()).append('/');
            for (Class<?> type : method.getParameterTypes()) {
                s.append(letter(type));
            }
            got.add(s.append('/').append(letter(method.getReturnType())).toString());
            due.is(method.getName() + " is public", Modifier.isPublic(mods) && !Modifier.isStatic(mods), true);
        }
        Set<String> want = new TreeSet<>(Arrays.asList(FACE.split(" ")));
        due.is("methods " + got, got.equals(want), true);
        for (Field field : DanceCompany.class.getDeclaredFields()) {
            int mods = field.getModifiers();
            due.is("field " + field.getName(), Modifier.isPrivate(mods) != field.getName().equals("NONE"), true);
            due.is("static " + field.getName(), !Modifier.isStatic(mods) || Modifier.isFinal(mods), true);
        }
        due.is("final", Modifier.isFinal(DanceCompany.class.getModifiers()), true);
        due.is("constructors", DanceCompany.class.getDeclaredConstructors().length, 1);
    }

    private static void nested() {
        Class<?>[] classes = DanceCompany.class.getDeclaredClasses();
        due.is("at most twelve classes", classes.length < 12, true);
        List<Class<?>> all = new ArrayList<>(Arrays.asList(classes));
        all.add(DanceCompany.class);
        Set<String> names = new TreeSet<>();
        for (Method method : DanceCompany.class.getMethods()) {
            if (method.getDeclaringClass() == DanceCompany.class) {
                names.add(method.getName());
            }
        }
        for (Class<?> one : all) {
            long fields = Arrays.stream(one.getDeclaredFields()).filter(f -> !Modifier.isStatic(f.getModifiers())).count();
            due.is(one + " has few fields", fields <= 20, true);
            for (Method method : one.getDeclaredMethods()) {
                due.is(method + " has few parameters", method.getParameterCount() <= 7, true);
                boolean ownName = one == DanceCompany.class && Modifier.isPublic(method.getModifiers());
                due.is(method + " has a name of its own", ownName || !names.contains(method.getName()), true);
            }
            if (one != DanceCompany.class) {
                due.is(one + " is static", Modifier.isStatic(one.getModifiers()) && !Modifier.isPublic(one.getModifiers()), true);
            }
        }
    }

    private static void text(String text) {
        String bare = text.replaceAll("(?s)/\\*.*?\\*/", "").replaceAll("//[^\n]*", "");
        for (String word : List.of("throw", "throws", "try", "catch", "synchronized", "assert", "double", "float", "hashCode",
                "toString", "package", "Object", "Random", "System.out")) {
            Matcher found = Pattern.compile("(?<![\\w.])" + Pattern.quote(word) + "\\b").matcher(bare);
            due.is("the word " + word, found.find(), false);
        }
        for (String sign : List.of("->", "::", "Exact(", "@")) {
            due.is("the sign " + sign, bare.contains(sign), false);
        }
        Matcher imports = Pattern.compile("import ([^;]*);").matcher(bare);
        while (imports.find()) {
            due.is("import " + imports.group(1), imports.group(1).equals("java.util.Arrays"), true);
        }
        int since = 0;
        int line = 0;
        for (String row : text.split("\n")) {
            line++;
            if (row.matches(" {4}( {4})?[a-z][^=;]*\\{")) {
                since = line;
            }
            if (row.matches(" {4}( {4})?\\}")) {
                due.is("the method that ends in line " + line + " is short", line - since <= 60 || row.startsWith("    }"), true);
            }
            due.is("line " + line + " is plain ASCII", row.chars().allMatch(c -> c >= 32 && c < 127), true);
        }
    }
}
