import java.io.IOException;
import java.lang.reflect.Constructor;
import java.lang.reflect.Field;
import java.lang.reflect.Method;
import java.lang.reflect.Modifier;
import java.nio.charset.StandardCharsets;
import java.nio.file.Files;
import java.nio.file.Path;
import java.util.Arrays;
import java.util.Set;
import java.util.TreeSet;
import java.util.regex.Matcher;
import java.util.regex.Pattern;

/** The public face as the document tells it, and what of LANGUAGE.md can be seen in the file. */
public final class FaceTest {
    private static final Path PROGRAM = Path.of("src/main/java/SpringOaths.java");
    private static final Path DOCUMENT = Path.of("../shared/DOC.md");

    public static void main(String[] args) throws IOException {
        face();
        classesInside();
        words();
        Check.end("FaceTest");
    }

    private static void face() throws IOException {
        String document = Files.readString(DOCUMENT, StandardCharsets.UTF_8);
        Matcher told = Pattern.compile("public (int|long) (\\w+)\\(([^)]*)\\);").matcher(document);
        Set<String> due = new TreeSet<>();
        while (told.find()) {
            due.add(told.group(1) + " " + told.group(2) + "(" + told.group(3).replaceAll(" \\w+(,|$)", "$1") + ")");
        }
        Check.due("methods told", due.size(), 48);
        Set<String> public_ = new TreeSet<>();
        Set<String> names = new TreeSet<>();
        for (Method method : SpringOaths.class.getDeclaredMethods()) {
            if (Modifier.isPublic(method.getModifiers())) {
                Check.holds(method + " belongs to an object", !Modifier.isStatic(method.getModifiers()));
                public_.add(signature(method));
                names.add(method.getName());
            }
        }
        Check.holds("the face: " + public_ + " against " + due, public_.equals(due));
        for (Method method : SpringOaths.class.getDeclaredMethods()) {
            boolean isPrivate = Modifier.isPrivate(method.getModifiers());
            Check.holds(method + " is public or private", isPrivate || Modifier.isPublic(method.getModifiers()));
            Check.holds(method + " has no public one's name", !isPrivate || !names.contains(method.getName()));
        }
        fieldsOfTheFace();
        Check.holds("it is public", Modifier.isPublic(SpringOaths.class.getModifiers()));
        Check.holds("it is final", Modifier.isFinal(SpringOaths.class.getModifiers()));
        Constructor<?>[] constructors = SpringOaths.class.getDeclaredConstructors();
        Check.due("constructors", constructors.length, 1);
        Check.holds("it is public", Modifier.isPublic(constructors[0].getModifiers()));
        Check.due("what it takes", constructors[0].getParameterCount(), 0);
    }

    private static String signature(Method method) {
        StringBuilder text = new StringBuilder(method.getReturnType() + " " + method.getName() + "(");
        for (int i = 0; i < method.getParameterCount(); i++) {
            text.append(i == 0 ? "" : ", ").append(method.getParameterTypes()[i]);
        }
        return text.append(")").toString();
    }

    private static void fieldsOfTheFace() {
        Set<String> constants = new TreeSet<>();
        for (Field field : SpringOaths.class.getDeclaredFields()) {
            int is = field.getModifiers();
            if (Modifier.isPublic(is)) {
                constants.add(field.getName());
                Check.holds(field + " is a constant", Modifier.isStatic(is) && Modifier.isFinal(is)
                    && field.getType() == int.class);
            } else {
                Check.holds(field + " is private", Modifier.isPrivate(is));
            }
        }
        Check.holds("the constants " + constants, constants.equals(Set.of("BAD", "FULL", "NONE")));
    }

    private static void classesInside() {
        Set<String> names = new TreeSet<>();
        for (Method method : SpringOaths.class.getMethods()) {
            names.add(method.getName());
        }
        Class<?>[] inside = SpringOaths.class.getDeclaredClasses();
        Check.holds("some twelve classes", inside.length < 12);
        for (Class<?> one : inside) {
            Check.holds(one + " is static", Modifier.isStatic(one.getModifiers()));
            Check.holds(one + " isn't public", !Modifier.isPublic(one.getModifiers()));
            for (Method method : one.getDeclaredMethods()) {
                Check.holds(method + " has no public one's name", !names.contains(method.getName()));
            }
            ownFields(one);
        }
        ownFields(SpringOaths.class);
    }

    private static void ownFields(Class<?> one) {
        long own = Arrays.stream(one.getDeclaredFields()).filter(f -> !Modifier.isStatic(f.getModifiers())).count();
        Check.holds(one + " has some twenty fields", own <= 20);
        for (Field field : one.getDeclaredFields()) {
            int is = field.getModifiers();
            Check.holds(field + " is final, if static", !Modifier.isStatic(is) || Modifier.isFinal(is));
        }
    }

    private static void words() throws IOException {
        String program = Files.readString(PROGRAM, StandardCharsets.UTF_8);
        Check.holds("plain signs", program.chars().allMatch(c -> c == '\n' || c >= 32 && c < 127));
        String code = program.replaceAll("(?s)/\\*.*?\\*/", "").replaceAll("//[^\n]*", "").replaceAll("\"[^\"]*\"", "\"\"");
        String[] ruledOut = {"throw", "throws", "try", "catch", "finally", "synchronized", "assert", "import", "package",
            "native", "volatile", "protected", "yield", "var", "double", "float"};
        for (String word : ruledOut) {
            Check.holds("no " + word, !Pattern.compile("\\b" + word + "\\b").matcher(code).find());
        }
        Check.holds("no lambda, no method reference", !code.contains("->") && !code.contains("::"));
        Matcher calls = Pattern.compile("\\b(Math|Integer|Long|System|Arrays)\\.(\\w+)").matcher(code);
        Set<String> library = Set.of("Math.min", "Math.max", "Math.abs", "Integer.bitCount", "Long.bitCount", "System.arraycopy");
        while (calls.find()) {
            Check.holds(calls.group() + " is of the library", library.contains(calls.group()));
        }
        makes(code);
        methods(code);
    }

    /** What is made is made with the object: by a field that is final, or by the constructor. */
    private static void makes(String code) {
        String constructor = code.replaceAll("(?s).*?( +public SpringOaths\\(\\) \\{.*?\n    \\}\n).*", "$1");
        for (String line : code.replace(constructor, "").split("\n")) {
            Check.holds("made with the object: " + line, !line.matches(".*\\bnew\\b.*") || line.matches(" +final .*= new .*"));
            Check.holds("a constant row: " + line, !line.matches(".*\\{.*\\d.*\\};") || line.matches(" +private static final int\\[\\] .*"));
        }
        Check.holds("nothing is copied", !Pattern.compile("\\bclone\\b|\\bcopyOf|\\bsubstring\\b|\\btoCharArray\\b").matcher(code).find());
        Check.holds("no texts are joined", !code.contains("\" +") && !code.contains("+ \""));
    }

    private static void methods(String code) {
        String[] lines = code.split("\n");
        int begin = -1;
        String end = "";
        for (int i = 0; i < lines.length; i++) {
            if (begin < 0 && lines[i].matches(" +[\\w\\[\\] ]+\\([^)]*\\) \\{") && !lines[i].matches(" +(if|for|while|switch|else|return|new)\\b.*")) {
                begin = i;
                end = lines[i].replaceAll("\\S.*", "") + "}";
                Check.holds("at most seven parameters: " + lines[i], lines[i].split(",").length <= 7);
            } else if (begin >= 0 && lines[i].equals(end)) {
                Check.holds("a short method: " + lines[begin], i - begin < 60);
                begin = -1;
            }
        }
        Check.holds("every method ends", begin < 0);
    }
}
