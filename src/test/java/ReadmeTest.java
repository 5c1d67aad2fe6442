import java.io.IOException;
import java.lang.reflect.Method;
import java.nio.file.Files;
import java.nio.file.Path;
import java.util.Set;
import java.util.TreeSet;
import java.util.regex.Matcher;
import java.util.regex.Pattern;

/** The run that README.md shows, answered as it says; read in the project's folder. */
public final class ReadmeTest {
    private static final Due due = new Due("ReadmeTest");
    private static final Pattern PUT = Pattern.compile("put\\(company, \"([^\"]*)\"\\);");
    private static final Pattern CALL = Pattern.compile("company\\.(\\w+)\\(([-\\d, ]*)\\); +// +(-?\\d+|true|false)\\b.*");

    public static void main(String[] args) throws Exception {
        DanceCompany company = new DanceCompany();
        int calls = 0;
        boolean inRun = false;
        for (String line : Files.readString(Path.of("README.md")).split("\n")) {
            inRun = line.startsWith("DanceCompany company = ") || inRun && !line.startsWith("```");
            Matcher put = PUT.matcher(line);
            Matcher call = CALL.matcher(line);
            if (inRun && put.matches()) {
                put(company, put.group(1));
            } else if (inRun && call.matches()) {
                calls++;
                due.is(line, answer(company, call.group(1), call.group(2)), number(call.group(3)));
            } else if (inRun && line.contains("company.")) {
                due.is("a line that is no call with its answer: " + line, 0, 1);
            }
        }
        due.is("the run is there", calls > 30, true);
        everyCallIsTold();
        putIsTold();
        due.end();
    }

    // As it stands in README.md, word for word.
    static void put(DanceCompany company, String text) {
        StringBuilder padded = new StringBuilder(text);
        while (padded.length() % 20 != 0) padded.append(' ');
        company.end(0);
        for (int i = 0; i < padded.length(); i += 20) {
            int[] five = new int[5];
            for (int j = 0; j < 20; j++) five[j / 4] = five[j / 4] << 8 | padded.charAt(i + j);
            company.feed(five[0], five[1], five[2], five[3], five[4]);
        }
        company.end(text.length());
    }

    private static void putIsTold() throws IOException {
        String own = Files.readString(Path.of("src/test/java/ReadmeTest.java"));
        String method = own.substring(own.indexOf("static void put("), own.indexOf("private static void putIsTold"));
        String readme = Files.readString(Path.of("README.md"));
        due.is("put is as README.md tells it", plain(readme).contains(plain(method)), true);
    }

    private static String plain(String text) {
        return text.replaceAll("\\s+", " ").trim();
    }

    private static long answer(DanceCompany company, String name, String row) throws ReflectiveOperationException {
        String[] parts = row.isBlank() ? new String[0] : row.split(", *");
        Class<?>[] types = new Class<?>[parts.length];
        Object[] values = new Object[parts.length];
        for (int i = 0; i < parts.length; i++) {
            types[i] = int.class;
            values[i] = Integer.parseInt(parts[i].trim());
        }
        return number(String.valueOf(DanceCompany.class.getMethod(name, types).invoke(company, values)));
    }

    private static long number(String text) {
        return text.equals("true") ? 1 : text.equals("false") ? 0 : Long.parseLong(text);
    }

    private static void everyCallIsTold() throws IOException {
        String readme = Files.readString(Path.of("README.md"));
        Set<String> untold = new TreeSet<>();
        for (Method method : DanceCompany.class.getMethods()) {
            if (method.getDeclaringClass() == DanceCompany.class && !readme.contains("`" + method.getName() + "`")) {
                untold.add(method.getName());
            }
        }
        due.is("calls that README.md does not tell of: " + untold, untold.size(), 0);
    }
}
