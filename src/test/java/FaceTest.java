import java.lang.reflect.Constructor;
import java.lang.reflect.Field;
import java.lang.reflect.Method;
import java.lang.reflect.Modifier;
import java.nio.file.Files;
import java.nio.file.Path;
import java.util.Set;
import java.util.TreeSet;
import java.util.regex.Matcher;
import java.util.regex.Pattern;

/** The public face, promise 1's constructor, and the rules of LANGUAGE.md that can be seen from outside. */
public final class FaceTest {
    private static final Path SOURCE = Path.of("src/main/java/LastBoat.java");
    private static final String[] FACE = {
        "int feed(int,int,int,int,int)", "int end(int)", "int post()", "int fault(int)", "int told(int)",
        "int wants(int,int,int)", "int signs(int,int)", "int rule(int,int,int)", "long means(int,int,int,int)",
        "long score(int,int,int)", "long safe(int,int,int,boolean)", "int one(int)", "int keeps(int,int)",
        "int sure(int,int)", "long worth(int,int,int)", "long list()", "int listed(int)", "int next()",
        "long instead(int,int,int,int)", "long think(int,boolean)", "int after(int)",
        "long sledge(int,int,int,int,int,int)", "int when(int,int,int,int,int)", "long second(int,int,int)",
        "int forTwo(int,int)", "int trust(int)", "int begin(int)", "int go(int)", "int stock(int,int)", "int ran(int)",
        "int keep(int)", "int take(int)", "int count(int)" };

    public static void main(String[] args) throws Exception {
        Check.isTrue("the class is public and final", LastBoat.class.getModifiers() == (Modifier.PUBLIC | Modifier.FINAL));
        methods();
        constants();
        Constructor<?>[] made = LastBoat.class.getDeclaredConstructors();
        Check.due("constructors", made.length, 1);
        Check.isTrue("it is public, without parameters",
            made[0].getModifiers() == Modifier.PUBLIC && made[0].getParameterCount() == 0);
        classesInside();
        words(Files.readString(SOURCE));
        Check.finish("FaceTest");
    }

    private static void methods() {
        Set<String> due = new TreeSet<>(Set.of(FACE));
        Set<String> publicNames = new TreeSet<>();
        for (String each : FACE) {
            publicNames.add(each.substring(each.indexOf(' ') + 1, each.indexOf('(')));
        }
        for (Method method : LastBoat.class.getDeclaredMethods()) {
            if (Modifier.isPrivate(method.getModifiers())) {
                Check.isTrue("private " + method.getName(), !publicNames.contains(method.getName()));
            } else {
                Check.isTrue("public " + shape(method), due.remove(shape(method)) && method.getModifiers() == Modifier.PUBLIC);
            }
        }
        Check.due("methods that are missing: " + due, due.size(), 0);
        for (Class<?> inside : LastBoat.class.getDeclaredClasses()) {
            for (Method method : inside.getDeclaredMethods()) {
                Check.isTrue("inside " + method.getName(), !publicNames.contains(method.getName()));
            }
        }
    }

    private static String shape(Method method) {
        StringBuilder shape = new StringBuilder(method.getReturnType() + " " + method.getName() + "(");
        for (Class<?> type : method.getParameterTypes()) {
            shape.append(shape.charAt(shape.length() - 1) == '(' ? "" : ",").append(type);
        }
        return shape.append(')').toString();
    }

    private static void constants() throws Exception {
        String[] names = { "NONE", "RANGE", "FULL", "STATE" };
        for (int i = 0; i < 4; i++) {
            Check.due(names[i], LastBoat.class.getField(names[i]).getInt(null), -1 - i);
        }
        Check.due("public fields", LastBoat.class.getFields().length, 4);
        for (Field field : LastBoat.class.getDeclaredFields()) {
            int how = field.getModifiers();
            Check.isTrue(field.getName(), Modifier.isPrivate(how) || Modifier.isPublic(how));
            Check.isTrue(field.getName() + " is final", !Modifier.isStatic(how) || Modifier.isFinal(how));
        }
    }

    private static void classesInside() {
        Class<?>[] inside = LastBoat.class.getDeclaredClasses();
        Check.isTrue("at most twelve classes", inside.length < 12);
        for (Class<?> each : inside) {
            Check.isTrue(each.getName() + " is static", Modifier.isStatic(each.getModifiers()));
            int fields = 0;
            for (Field field : each.getDeclaredFields()) {
                fields += Modifier.isStatic(field.getModifiers()) ? 0 : 1;
            }
            Check.isTrue(each.getName() + " has some twenty fields", fields <= 20);
        }
    }

    private static void words(String source) {
        String code = source.replaceAll("(?s)/\\*.*?\\*/", "").replaceAll("//[^\n]*", "").replaceAll("\"[^\"\n]*\"", "\"\"");
        String[] ruledOut = { "throw", "throws", "try", "catch", "synchronized", "assert", "import", "package", "protected",
            "Exception", "Object", "hashCode", "toString", "System\\.(?!arraycopy)", "var", "Random", "Thread" };
        for (String word : ruledOut) {
            Check.isTrue("no " + word, !Pattern.compile("\\b" + word + "\\b").matcher(code).find());
        }
        Check.isTrue("no lambda, no method reference", !code.contains("->") && !code.contains("::"));
        Check.isTrue("no texts joined by +", !Pattern.compile("\"\"\\s*\\+|\\+\\s*\"\"").matcher(code).find());
        Matcher heads = Pattern.compile("(?m)^( +)(?:public |private |static |final )*[\\w\\[\\]]+ (\\w+)\\(([^)]*)\\) \\{$").matcher(code);
        int methods = 0;
        while (heads.find()) {
            methods++;
            String parameters = heads.group(3);
            Check.isTrue(heads.group(2) + " takes at most seven", parameters.split(",").length <= 7);
            int end = code.indexOf("\n" + heads.group(1) + "}", heads.end());
            long lines = code.substring(heads.start(), end).lines().count();
            Check.isTrue(heads.group(2) + " is short", lines <= 60);
        }
        Check.isTrue("methods were seen", methods > 100);
    }
}
