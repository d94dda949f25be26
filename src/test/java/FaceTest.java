import java.io.IOException;
import java.lang.reflect.Field;
import java.lang.reflect.Method;
import java.lang.reflect.Modifier;
import java.nio.file.Files;
import java.nio.file.Path;
import java.util.Set;
import java.util.TreeSet;
import java.util.regex.Matcher;
import java.util.regex.Pattern;

/** The public face, and what LANGUAGE.md leaves out and can be seen from outside. */
final class FaceTest {
    private static final Set<String> FACE = Set.of(
        "int row(int,int,int)", "int miss(int)", "int share(int,int)", "int put(int,int,long)",
        "long item(int,int)", "int about(int,int)", "int thing(int)", "int of(int,int)",
        "int routine(int)", "int op(int,int,int,int)", "int guard(int,int,int,int,int)",
        "int last(int,int)", "int run(int,long,long)", "long result()", "int told(int)",
        "long number()", "long output(int)", "int count(int,int)", "int forget()");

    private static final Path DOCUMENT = Path.of("../shared/DOC.md");
    private static final Pattern TOLD =
        Pattern.compile("(?m)^    public (\\w+ \\w+\\()([^)]*)\\);");

    private FaceTest() { }

    public static void main(String[] args) throws IOException {
        document();
        members();
        inside();
        words();
        Due.due("NONE", StoryClasses.NONE, -1);
        Due.due("BAD", StoryClasses.BAD, -1000000);
        Due.due("FULL", StoryClasses.FULL, -1000001);
        Due.end();
    }

    /** The face that is looked at is the document's. */
    private static void document() throws IOException {
        if (!Files.exists(DOCUMENT)) {
            System.out.println(DOCUMENT + " is not there: its face is not looked at");
            return;
        }
        Set<String> told = new TreeSet<>();
        Matcher m = TOLD.matcher(Files.readString(DOCUMENT));
        while (m.find()) {
            String types = m.group(2).replaceAll(" \\w+(?=,|$)", "").replace(", ", ",");
            told.add(m.group(1) + types + ")");
        }
        Due.holds("the document's face is " + told, told.equals(FACE));
    }

    private static String signature(Method m) {
        StringBuilder s = new StringBuilder(m.getReturnType() + " " + m.getName() + "(");
        for (Class<?> c : m.getParameterTypes()) {
            if (s.charAt(s.length() - 1) != '(') s.append(',');
            s.append(c);
        }
        return s.append(')').toString();
    }

    private static void members() {
        Class<?> c = StoryClasses.class;
        Due.holds("public and final", c.getModifiers() == (Modifier.PUBLIC | Modifier.FINAL));
        Due.due("constructors", c.getDeclaredConstructors().length, 1);
        Due.due("public constructors", c.getConstructors().length, 1);
        Set<String> seen = new TreeSet<>();
        for (Method m : c.getDeclaredMethods()) {
            if (Modifier.isPrivate(m.getModifiers())) continue;
            Due.holds("public, not static: " + m, m.getModifiers() == Modifier.PUBLIC);
            seen.add(signature(m));
        }
        Due.holds("the methods are " + seen, seen.equals(FACE));
        Set<String> constants = new TreeSet<>();
        for (Field f : c.getDeclaredFields()) {
            if (!Modifier.isPrivate(f.getModifiers())) constants.add(f.getName());
        }
        Due.holds("the constants", constants.equals(Set.of("NONE", "BAD", "FULL")));
    }

    private static void inside() {
        Set<String> names = new TreeSet<>();
        for (String s : FACE) names.add(s.substring(s.indexOf(' ') + 1, s.indexOf('(')));
        Class<?>[] classes = StoryClasses.class.getDeclaredClasses();
        Due.holds("at most twelve classes", classes.length < 12);
        for (Class<?> c : classes) {
            Due.holds("static: " + c, Modifier.isStatic(c.getModifiers()));
            Due.holds("not public: " + c, !Modifier.isPublic(c.getModifiers()));
            int own = 0;
            for (Field f : c.getDeclaredFields()) {
                boolean isStatic = Modifier.isStatic(f.getModifiers());
                Due.holds("final: " + f, !isStatic || Modifier.isFinal(f.getModifiers()));
                if (!isStatic) own++;
            }
            Due.holds("some twenty fields: " + c, own <= 20);
            for (Method m : c.getDeclaredMethods()) {
                Due.holds("at most seven parameters: " + m, m.getParameterCount() <= 7);
                Due.holds("no name of the face: " + m, !names.contains(m.getName()));
            }
        }
    }

    private static void words() throws IOException {
        String text = Files.readString(Path.of("src/main/java/StoryClasses.java"));
        for (char c : text.toCharArray()) {
            if (c > 255) Due.holds("characters to 255", false);
        }
        String code = text.replaceAll("(?s)/\\*.*?\\*/", "").replaceAll("//[^\n]*", "");
        String[] left = {"throw", "throws", "try", "catch", "finally", "synchronized", "assert",
            "package", "record", "volatile", "transient", "native", "Object",
            "System\\.(?!arraycopy)", "\\w+Exact", "NaN", "static\\s*\\{",
            "import (?!java\\.util\\.Arrays;)"};
        for (String word : left) {
            boolean found = Pattern.compile("(?<!\\w)" + word + "(?!\\w)").matcher(code).find();
            Due.holds("without " + word, !found);
        }
        Due.holds("no lambda, no method reference", !code.contains("->") && !code.contains("::"));
        Due.holds("no text", !code.contains("\""));
    }
}
