import java.io.IOException;
import java.lang.reflect.Constructor;
import java.lang.reflect.Field;
import java.lang.reflect.Method;
import java.lang.reflect.Modifier;
import java.nio.file.Files;
import java.nio.file.Path;
import java.util.Arrays;
import java.util.Set;
import java.util.TreeSet;
import java.util.regex.Matcher;
import java.util.regex.Pattern;
import java.util.stream.Collectors;

/** The public face, and the rules of LANGUAGE.md that can be read off the class and its source. */
public final class FaceTest {
    private static final Checks C = new Checks("FaceTest");
    private static final String[] FACE = {
        "int write(int,long)", "int clear()", "int fault()", "int build()", "int item(int,int)", "int weather(int,int,int,int)", "int anew()",
        "int run(int)", "long has(int,int)", "long flow(int)", "int gate(int,int)", "long book(int)", "int gauge(int,int,int)",
        "long reads(int)", "int see(int,int,int)", "int ends(int)", "int knob(int,int,int,int,int,int)", "int fits()", "int fit(int,int)",
        "int take(int)", "int weigh(int,int)", "int rain(int,int,int)", "int chance(int,int,long)", "int warn(int,int,long,int)",
        "int booked(int)", "long peak(int,int,int)", "long best(int,int,int,int,long,int)", "int swap(int)", "long swapped(int,int,int)",
        "int laySwap()", "int startB(int,int)", "long blame(int,int,int)", "int keep()", "int back()", "int count(int)"};
    private static final String[] BANNED = {
        "throw", "throws", "try", "catch", "finally", "synchronized", "assert", "protected", "volatile", "System.out", "System.err", "Exact(",
        "->", "::", "instanceof", "null", "package", "toString", "hashCode", ".equals", "Random", "Thread", "currentTimeMillis", "nanoTime"};

    public static void main(String[] args) throws IOException {
        constants();
        face();
        faceOfDocument();
        classes();
        source();
        C.end();
    }

    private static void constants() {
        C.due("BAD", RiverModel.BAD, -1);
        C.due("NO", RiverModel.NO, -2);
        C.due("FULL", RiverModel.FULL, -3);
        C.due("NONE", RiverModel.NONE, -4);
    }

    private static void face() {
        Class<?> face = RiverModel.class;
        C.due("public and final", face.getModifiers() & (Modifier.PUBLIC | Modifier.FINAL), Modifier.PUBLIC | Modifier.FINAL);
        Set<String> open = new TreeSet<>();
        Set<String> names = new TreeSet<>();
        for (Method method : face.getDeclaredMethods()) {
            if (!Modifier.isPrivate(method.getModifiers())) {
                open.add(signature(method));
                names.add(method.getName());
            }
        }
        C.due("methods " + open, open.equals(new TreeSet<>(Arrays.asList(FACE))) ? 1 : 0, 1);
        for (Class<?> one : allClasses()) {
            for (Method method : one.getDeclaredMethods()) {
                boolean isFace = one == face && Modifier.isPublic(method.getModifiers());
                C.due(one.getName() + "." + method.getName() + " bears a name of the face", !isFace && names.contains(method.getName()) ? 1 : 0, 0);
                C.due(one.getName() + "." + method.getName() + " has more than seven parameters", method.getParameterCount() > 7 ? 1 : 0, 0);
            }
        }
        for (Constructor<?> made : face.getDeclaredConstructors()) {
            C.due("the constructor", Modifier.isPublic(made.getModifiers()) && made.getParameterCount() == 0 ? 1 : 0, 1);
        }
        Set<String> fields = new TreeSet<>();
        for (Field field : face.getDeclaredFields()) {
            if (!Modifier.isPrivate(field.getModifiers())) {
                fields.add(field.getName());
            }
        }
        C.due("fields " + fields, fields.equals(Set.of("BAD", "NO", "FULL", "NONE")) ? 1 : 0, 1);
    }

    private static void faceOfDocument() throws IOException {
        Path place = Path.of("../shared/DOC.md");
        if (!Files.isReadable(place)) {
            System.out.println("FaceTest: the document is not there, its face was not compared");
            return;
        }
        Set<String> told = new TreeSet<>();
        Matcher lines = Pattern.compile("(?m)^ {4}public ((?:int|long) \\w+\\(.*\\));$").matcher(Files.readString(place));
        while (lines.find()) {
            told.add(lines.group(1).replaceAll("(int|long) \\w+([,)])", "$1$2").replace(", ", ","));
        }
        C.due("the document's face " + told, told.equals(new TreeSet<>(Arrays.asList(FACE))) ? 1 : 0, 1);
    }

    private static String signature(Method method) {
        return method.getReturnType().getName() + " " + method.getName() + "("
            + Arrays.stream(method.getParameterTypes()).map(Class::getName).collect(Collectors.joining(",")) + ")";
    }

    private static Set<Class<?>> allClasses() {
        Set<Class<?>> all = new TreeSet<>((a, b) -> a.getName().compareTo(b.getName()));
        all.add(RiverModel.class);
        all.addAll(Arrays.asList(RiverModel.class.getDeclaredClasses()));
        return all;
    }

    private static void classes() {
        C.due("more than twelve classes", allClasses().size() > 12 ? 1 : 0, 0);
        for (Class<?> one : allClasses()) {
            int fields = 0;
            for (Field field : one.getDeclaredFields()) {
                boolean isStatic = Modifier.isStatic(field.getModifiers());
                C.due(one.getName() + "." + field.getName() + " is static and not final", isStatic && !Modifier.isFinal(field.getModifiers()) ? 1 : 0, 0);
                fields += isStatic ? 0 : 1;
            }
            C.due(one.getName() + " has " + fields + " fields", fields > 20 ? 1 : 0, 0);
            C.due(one.getName() + " is static", one == RiverModel.class || Modifier.isStatic(one.getModifiers()) ? 1 : 0, 1);
        }
    }

    private static void source() throws IOException {
        String source = Files.readString(Path.of("src/main/java/RiverModel.java"));
        String code = source.replaceAll("(?s)/\\*.*?\\*/", "").replaceAll("//[^\n]*", "");
        for (String word : BANNED) {
            String edge = Character.isLetter(word.charAt(0)) ? "\\b" : "";
            String end = Character.isLetter(word.charAt(word.length() - 1)) ? "\\b" : "";
            C.due(word + " stands in the source", Pattern.compile(edge + Pattern.quote(word) + end).matcher(code).find() ? 1 : 0, 0);
        }
        Matcher imports = Pattern.compile("import ([^;]+);").matcher(code);
        while (imports.find()) {
            C.due("import " + imports.group(1), imports.group(1).equals("java.util.Arrays") ? 1 : 0, 1);
        }
        lengths(source);
    }

    private static void lengths(String source) {
        String head = "";
        int begun = 0;
        String[] lines = source.split("\n");
        for (int k = 0; k < lines.length; k++) {
            String line = lines[k];
            if (line.matches(" {4}(?: {4})?\\w[^;=]*\\) \\{")) {
                head = line.trim();
                begun = k;
            } else if (!head.isEmpty() && line.matches(" {4}(?: {4})?\\}")) {
                C.due(head + " has " + (k - begun) + " lines", k - begun > 60 ? 1 : 0, 0);
                head = "";
            }
        }
    }
}
