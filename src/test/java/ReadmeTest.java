import java.io.IOException;
import java.lang.reflect.Method;
import java.lang.reflect.Modifier;
import java.net.URL;
import java.net.URLClassLoader;
import java.nio.file.Files;
import java.nio.file.Path;
import java.util.ArrayList;
import java.util.HashMap;
import java.util.List;
import java.util.Map;
import java.util.Random;
import java.util.Set;
import java.util.TreeSet;
import java.util.regex.MatchResult;
import java.util.regex.Pattern;
import java.util.stream.Collectors;
import java.util.stream.Stream;
import javax.tools.JavaCompiler;
import javax.tools.ToolProvider;

/** What README.md says: its code is compiled and run, its tables are compared with the class and the document. */
public final class ReadmeTest {
    private static final Path DOCUMENT = Path.of("../shared/DOC.md");
    private static final Map<Long, String> REFUSALS = Map.of(-1L, "NONE", -2L, "RANGE", -3L, "FULL", -4L, "STATE",
        Check.FAR, "far RANGE", (long) Check.FAR_NONE, "far NONE");
    private static final int[] NUMBERS = { Integer.MIN_VALUE, -2, -1, 0, 0, 0, 1, 1, 2, 3, 4, 5, 11, 20, 21, 41, 999, 1000, 10000 };

    public static void main(String[] args) throws Exception {
        String readme = Files.readString(Path.of("README.md"));
        codeRuns(readme);
        newObject();
        callsAreThoseOfTheFace(readme);
        refusalsAreThoseSeen(readme);
        refusalNumbers(readme);
        powersOfTen(readme);
        testsAreNamed(readme);
        if (Files.isReadable(DOCUMENT)) {
            agreesWithTheDocument(readme, Files.readString(DOCUMENT));
        }
        Check.finish("ReadmeTest");
    }

    /** Called by the code of README.md, which another loader brings: so it is public. */
    public static void due(String call, long got, long want) {
        Check.due("README.md: " + call, got, want);
    }

    private static List<MatchResult> all(String pattern, String text) {
        return Pattern.compile(pattern).matcher(text).results().collect(Collectors.toList());
    }

    private static String part(String readme, String from, String to) {
        int start = readme.indexOf(from);
        int end = to.isEmpty() ? readme.length() : readme.indexOf(to, start);
        Check.isTrue("README.md has " + from + " and then " + to, start >= 0 && end > start);
        return start >= 0 && end > start ? readme.substring(start, end) : "";
    }

    private static void codeRuns(String readme) throws Exception {
        List<MatchResult> blocks = all("(?s)```java\n(.*?)```", readme);
        Check.due("blocks of code", blocks.size(), 2);
        String steps = blocks.get(1).group(1);
        int answers = all("(?m)^boat\\..*; +// -?\\d+$", steps).size();
        Check.due("calls without an answer", all("(?m)^boat\\.", steps).size() - answers, 0);
        Check.isTrue("calls with their answers", answers > 25);
        String asked = steps.replaceAll("(?m)^(boat\\..*); +// (-?\\d+)$", "ReadmeTest.due(\"$1\", $1, $2L);");
        runs("public final class ReadmeCode {\n" + blocks.get(0).group(1)
            + "public static void steps() {\n" + asked + "}\n}\n");
    }

    private static void runs(String source) throws Exception {
        Path folder = Files.createTempDirectory("readme");
        Path file = folder.resolve("ReadmeCode.java");
        Files.writeString(file, source);
        JavaCompiler compiler = ToolProvider.getSystemJavaCompiler();
        int failed = compiler.run(null, null, null, "-d", folder.toString(), "-cp",
            System.getProperty("java.class.path"), file.toString());
        Check.due("README.md's code compiles", failed, 0);
        if (failed == 0) {
            try (URLClassLoader loader = new URLClassLoader(new URL[] { folder.toUri().toURL() })) {
                loader.loadClass("ReadmeCode").getMethod("steps").invoke(null);
            }
        }
        Files.deleteIfExists(folder.resolve("ReadmeCode.class"));
        Files.delete(file);
        Files.delete(folder);
    }

    /** What the text says of a new object and of the tape. */
    private static void newObject() {
        LastBoat boat = new LastBoat();
        Check.due("WEEKS of a new object", boat.told(0), 4);
        Check.due("cases of a new object", boat.told(1), 40);
        Check.put(boat, " ".repeat(900));
        Check.due("feed behind 900 bytes", boat.feed(0, 0, 0, 0, 0), LastBoat.FULL);
        Check.due("end of 901 bytes", boat.end(901), LastBoat.NONE);
        Check.due("the tape stays", boat.count(1), 900);
    }

    /** For each call of the table its refusals. */
    private static Map<String, Set<String>> table(String readme) {
        Map<String, Set<String>> table = new HashMap<>();
        for (MatchResult row : all("(?m)^\\| `(\\w+\\([^)]*\\))` \\|.*\\| ([^|]*) \\|$", part(readme, "## Ask it", "```java"))) {
            Check.isTrue(row.group(1) + " stands once", !table.containsKey(row.group(1)));
            table.put(row.group(1), new TreeSet<>(List.of(row.group(2).split(", "))));
        }
        return table;
    }

    private static String name(String call) {
        return call.substring(0, call.indexOf('('));
    }

    private static int parameters(String call) {
        return call.endsWith("()") ? 0 : call.split(",").length;
    }

    private static List<Method> face() {
        return Stream.of(LastBoat.class.getDeclaredMethods())
            .filter(method -> Modifier.isPublic(method.getModifiers())).collect(Collectors.toList());
    }

    private static void callsAreThoseOfTheFace(String readme) {
        Set<String> said = new TreeSet<>();
        for (String call : table(readme).keySet()) {
            said.add(name(call) + " with " + parameters(call));
        }
        Set<String> there = new TreeSet<>();
        for (Method method : face()) {
            there.add(method.getName() + " with " + method.getParameterCount());
        }
        Check.isTrue("calls said: " + said + ", there: " + there, said.equals(there));
    }

    private static void refusalsAreThoseSeen(String readme) throws Exception {
        Map<String, Set<String>> said = new HashMap<>();
        table(readme).forEach((call, refusals) -> said.put(name(call), refusals));
        Random random = new Random(12);
        for (Method method : face()) {
            Set<String> seen = new TreeSet<>();
            for (int i = 0; i < 3000; i++) {
                LastBoat boat = anyBoat(random);
                long answer = ((Number) method.invoke(boat, anyNumbers(method, random))).longValue();
                if (REFUSALS.containsKey(answer) && !isAnAnswerToo(method, answer)) {
                    seen.add(REFUSALS.get(answer));
                }
            }
            Set<String> due = said.getOrDefault(method.getName(), Set.of());
            Check.isTrue(method.getName() + " is refused with " + seen + ", said is " + due, seen.equals(due));
        }
    }

    /** Where the refusal is a far number, all others may be answers. */
    private static boolean isAnAnswerToo(Method method, long answer) {
        if (method.getName().equals("ran")) {
            return answer != Check.FAR_NONE;
        }
        boolean isMean = method.getReturnType() == long.class && !Set.of("safe", "think").contains(method.getName());
        return isMean && answer != Check.FAR;
    }

    private static LastBoat anyBoat(Random random) {
        int way = random.nextInt(5);
        if (way == 0) {
            return new LastBoat();
        }
        LastBoat boat = way == 1 ? Check.told("thing a 1 1 1 1 1 0;thing b 1 1 1 1 1 0;instead a b 9;", 3) : Refused.boatWithAll();
        if (way > 2) {
            Check.putRow(boat, random.ints(random.nextInt(4), 0, 4).toArray());
        }
        if (way == 2 && random.nextBoolean()) {
            Check.put(boat, "weeks 5;winter a 10 5 5 0;thing t 1 1 1 9 0 2;thing u 1 1 0 0 0 0;want t a 0 0 0 10 3;");
            boat.post();
        }
        if (random.nextInt(4) == 0) {
            Check.put(boat, " ".repeat(900));
        }
        return boat;
    }

    private static Object[] anyNumbers(Method method, Random random) {
        Object[] numbers = new Object[method.getParameterCount()];
        boolean isTame = random.nextBoolean();
        for (int i = 0; i < numbers.length; i++) {
            int number = isTame ? random.nextInt(2) : NUMBERS[random.nextInt(NUMBERS.length)];
            numbers[i] = method.getParameterTypes()[i] == boolean.class ? (Object) (number % 2 == 0) : (Object) number;
        }
        return numbers;
    }

    private static void refusalNumbers(String readme) throws Exception {
        List<MatchResult> rows = all("(?m)^\\| `?((?:far )?[A-Z]+)`? \\| (-\\d+) \\|", readme);
        Check.due("refusals", rows.size(), REFUSALS.size());
        for (MatchResult row : rows) {
            String is = REFUSALS.get(Long.parseLong(row.group(2)));
            Check.isTrue(row.group(1) + " is " + row.group(2), row.group(1).equals(is));
        }
        for (String name : List.of("NONE", "RANGE", "FULL", "STATE")) {
            Check.isTrue(name, REFUSALS.get((long) LastBoat.class.getField(name).getInt(null)).equals(name));
        }
    }

    /** Of a THING that nobody wants one is left, worth 1: so each mean is its power of ten itself. */
    private static void powersOfTen(String readme) {
        List<MatchResult> rows = all("(?m)^\\| (`.*) \\| (2 )?WEEKS( - w)?(?: \\+ (\\d))? \\|$", readme);
        Check.due("rows of powers", rows.size(), 6);
        for (int weeks = 1; weeks <= 5; weeks++) {
            LastBoat boat = Check.told("weeks " + weeks + ";cases 1;winter a 10 10 0 0;thing t 1 0 0 0 1 0;"
                + "thing u 1 0 0 0 0 0;instead u t 0;", 6);
            int week = weeks / 2;
            for (MatchResult row : rows) {
                int power = (row.group(2) == null ? weeks : 2 * weeks) - (row.group(3) == null ? 0 : week)
                    + (row.group(4) == null ? 0 : Integer.parseInt(row.group(4)));
                List<Long> means = meansOf(boat, row.group(1), week);
                Check.isTrue(row.group(1) + " is known", !means.isEmpty());
                for (long mean : means) {
                    Check.due(row.group(1) + " with WEEKS " + weeks, mean, Oracle.power(power));
                }
            }
        }
    }

    private static List<Long> meansOf(LastBoat boat, String calls, int week) {
        switch (calls) {
            case "`means`, `score` in a WINTER":
                return List.of(boat.means(0, 1, 0, 4), boat.score(0, 1, 0));
            case "`means`, `score` in any WINTER (`winter` NONE)":
                return List.of(boat.means(0, 1, -1, 4), boat.score(0, 1, -1));
            case "`worth` in WEEK w":
                return List.of(boat.worth(0, week, 0));
            case "`list`, `sledge`":
                return List.of(boat.list(), boat.sledge(0, 0, week, 0, 1, 0));
            case "`instead`":
                return List.of(boat.instead(0, 1, 0, 0));
            case "`second`":
                return List.of(boat.second(0, 1, 0), boat.second(0, 1, 10));
            default:
                return List.of();
        }
    }

    private static void testsAreNamed(String readme) throws IOException {
        try (Stream<Path> files = Files.list(Path.of("src/test/java"))) {
            for (Path file : files.collect(Collectors.toList())) {
                String name = file.getFileName().toString().replace(".java", "");
                Check.isTrue("README.md names " + name, readme.contains("`" + name + "`"));
            }
        }
        for (MatchResult named : all("`(\\w+Test)`", readme)) {
            Check.isTrue(named.group(1) + " is there", Files.exists(Path.of("src/test/java", named.group(1) + ".java")));
        }
    }

    private static void agreesWithTheDocument(String readme, String document) {
        for (String call : table(readme).keySet()) {
            String head = " " + call.replaceAll("(\\(|, )(?=\\w)", "$1int ").replace("int isLower", "boolean isLower") + ";";
            Check.isTrue("the document has" + head, document.contains(head));
        }
        String clauses = part(readme, "| Clause |", "WINTERS, THINGS and FAMILIES have names");
        for (MatchResult clause : all("(?m)^\\| `(\\w+)( [WN ]+)` \\|", clauses)) {
            String form = "\"" + clause.group(1) + "\"" + clause.group(2);
            Check.isTrue("the document has " + form, all(Pattern.quote(form) + "( \\||\\.)", document).size() == 1);
        }
        Check.due("clauses", all("(?m)^\\| `\\w+ [WN ]+` \\|", clauses).size(), 7);
        String told = part(document, "weeks 1 .. 5 (4)", "All are numbered");
        Check.isTrue("bounds of the clauses", bounds(clauses).equals(bounds(told)) && bounds(told).size() == 17);
        List<MatchResult> kinds = all("(?m)^\\| (\\d) \\| ([A-Z]+): ", readme);
        Check.due("KINDS of faults", kinds.size(), 7);
        for (MatchResult kind : kinds) {
            String head = kind.group(1) + " " + kind.group(2) + ": ";
            Check.isTrue("the document has " + head, document.contains(head));
        }
    }

    private static List<String> bounds(String text) {
        List<String> bounds = new ArrayList<>();
        for (MatchResult bound : all("\\d+ \\.\\. \\d+|at most \\d", text)) {
            bounds.add(bound.group());
        }
        return bounds;
    }
}
