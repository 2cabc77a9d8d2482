import java.io.IOException;
import java.lang.reflect.Constructor;
import java.lang.reflect.Field;
import java.lang.reflect.Method;
import java.lang.reflect.Modifier;
import java.nio.file.Files;
import java.nio.file.Path;
import java.util.ArrayList;
import java.util.List;
import java.util.Set;
import java.util.TreeSet;
import java.util.regex.Matcher;
import java.util.regex.Pattern;

/** The face of the document, and the rules of LANGUAGE.md that can be seen from outside. */
public final class LanguageTest {
    private static final Due due = new Due("LanguageTest");
    private static final Pattern FACE = Pattern.compile("public (int|long) ([a-z]+)\\(([^)]*)\\);");

    public static void main(String[] args) throws IOException {
        Path project = Path.of(System.getProperty("project", "."));
        String doc = Files.readString(project.resolve("../shared/DOC.md"));
        String source = Files.readString(project.resolve("src/main/java/StairSteps.java"));
        theFaceIsTheDocuments(doc);
        theClassesInsideAreStatic();
        noWordIsForbidden(source);
        theLibraryIsTheListed(source);
        due.end();
    }

    private static void theFaceIsTheDocuments(String doc) {
        Set<String> want = new TreeSet<>(), got = new TreeSet<>(), hidden = new TreeSet<>();
        Matcher m = FACE.matcher(doc);
        while (m.find()) want.add(m.group(1) + " " + m.group(2) + "/" + arity(m.group(3)));
        due.is("methods of the face", want.size(), 38);
        for (Method method : StairSteps.class.getDeclaredMethods()) {
            String told = method.getReturnType() + " " + method.getName() + "/" + method.getParameterCount();
            if (Modifier.isPublic(method.getModifiers())) got.add(told);
            else hidden.add(method.getName());
            boolean open = Modifier.isPublic(method.getModifiers()) || Modifier.isPrivate(method.getModifiers());
            due.holds("rule 1: " + method + " is public or private", open || method.isSynthetic());
            due.holds("rule 11: parameters of " + method, method.getParameterCount() <= 7);
        }
        due.holds("the face: " + got, want.equals(got));
        for (String told : got) due.holds("rule 1: hidden " + told, !hidden.contains(told.replaceAll(".* |/.*", "")));
        Constructor<?>[] made = StairSteps.class.getDeclaredConstructors();
        due.is("one constructor", made.length, 1);
        due.holds("public", Modifier.isPublic(made[0].getModifiers()) && made[0].getParameterCount() == 0);
        due.holds("final", Modifier.isFinal(StairSteps.class.getModifiers()));
        fieldsAreHidden();
    }

    private static int arity(String parameters) {
        return parameters.isEmpty() ? 0 : parameters.split(",").length;
    }

    private static void fieldsAreHidden() {
        Set<String> constants = Set.of("NONE", "BAD", "NO", "FULL");
        int fields = 0;
        for (Field field : StairSteps.class.getDeclaredFields()) {
            boolean isPublic = Modifier.isPublic(field.getModifiers());
            due.holds("rule 1: " + field, isPublic == constants.contains(field.getName()));
            due.holds("rule 1: hidden " + field, isPublic || Modifier.isPrivate(field.getModifiers()));
            if (Modifier.isStatic(field.getModifiers())) due.holds("rule 5: " + field, Modifier.isFinal(field.getModifiers()));
            else fields++;
        }
        due.holds("rule 11: fields " + fields, fields <= 20);
    }

    private static void theClassesInsideAreStatic() {
        Class<?>[] inside = StairSteps.class.getDeclaredClasses();
        due.holds("rule 11: classes", inside.length <= 11);
        List<String> face = new ArrayList<>();
        for (Method method : StairSteps.class.getDeclaredMethods()) {
            if (Modifier.isPublic(method.getModifiers())) face.add(method.getName());
        }
        for (Class<?> one : inside) {
            due.holds("rule 2: " + one, Modifier.isStatic(one.getModifiers()));
            due.holds("rule 11: fields of " + one, one.getDeclaredFields().length <= 30);
            for (Method method : one.getDeclaredMethods()) {
                due.holds("rule 1: " + method, !face.contains(method.getName()));
            }
        }
    }

    private static void noWordIsForbidden(String source) {
        String code = source.replaceAll("(?s)/\\*.*?\\*/", " ").replaceAll("//[^\n]*", " ");
        for (String word : new String[] {"throw", "throws", "try", "catch", "synchronized", "assert", "package", "float",
            "double", "Thread", "Random", "equals", "hashCode", "toString", "static \\{", "->", "::", "[a-z]Exact"}) {
            String pattern = Character.isLetter(word.charAt(0)) ? "\\b" + word + "\\b" : word;
            due.holds("no " + word, !Pattern.compile(pattern).matcher(code).find());
        }
        due.holds("rule 12: new arrays and objects are fields of objects", !code.matches("(?s).*\\n {8,}return new .*"));
        int length = 0;
        for (String line : source.split("\n")) {
            length = line.matches(" {4,8}\\S.*\\{") && !line.contains("class") ? 0 : length + 1;
            if (line.matches(" {4,8}\\}")) due.holds("rule 11: a method's lines", length <= 60);
        }
    }

    private static void theLibraryIsTheListed(String source) {
        Matcher m = Pattern.compile("\\b(Arrays|Math|Integer|Long|System|String|List)\\.([a-zA-Z]+)").matcher(source);
        Set<String> listed = Set.of("Arrays.fill", "Math.min", "Math.max", "Integer.bitCount", "System.arraycopy");
        while (m.find()) due.holds("rule 4: " + m.group(), listed.contains(m.group()));
        Matcher imports = Pattern.compile("import ([^;]*);").matcher(source);
        while (imports.find()) due.holds("import " + imports.group(1), imports.group(1).equals("java.util.Arrays"));
    }
}
