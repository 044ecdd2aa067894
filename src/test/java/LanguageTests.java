import java.io.IOException;
import java.lang.reflect.Constructor;
import java.lang.reflect.Field;
import java.lang.reflect.Method;
import java.lang.reflect.Modifier;
import java.nio.file.Files;
import java.nio.file.Path;
import java.util.ArrayList;
import java.util.Arrays;
import java.util.List;
import java.util.TreeSet;
import java.util.regex.Matcher;
import java.util.regex.Pattern;

/** The face of the document, and those rules of LANGUAGE.md that can be read off the file. */
public final class LanguageTests {
    private static final Path PROGRAM = Path.of("src/main/java/SisterSteps.java");
    private static final Path DOCUMENT = Path.of("../shared/DOC.md");
    private static final int LONGEST_METHOD = 60;

    private LanguageTests() {
    }

    public static void main(String[] args) throws IOException {
        String source = Files.readString(PROGRAM);
        faceIsThatOfTheDocument();
        faceIsWrittenAsInTheDocument(source);
        onlyTheFaceCanBeSeen();
        noPrivateMethodBearsAPublicName();
        fieldsAreFew();
        wordsAreThoseOfTheLanguage(withoutTexts(source));
        methodsAreShort(source);
        TestKit.finish();
    }

    private static void faceIsThatOfTheDocument() throws IOException {
        TreeSet<String> told = new TreeSet<>();
        Matcher member = Pattern.compile("(?m)^    public (\\w+) (\\w+)\\(([^)]*)\\)(?: throws ([^;]*))?;$")
                .matcher(Files.readString(DOCUMENT));
        while (member.find()) {
            String types = member.group(3).replaceAll("(\\w+) \\w+", "$1");
            String thrown = member.group(4) == null ? "" : member.group(4);
            told.add(member.group(1) + " " + member.group(2) + "(" + types + ") " + thrown);
        }
        TreeSet<String> there = new TreeSet<>();
        for (Method method : SisterSteps.class.getDeclaredMethods()) {
            if (!Modifier.isPrivate(method.getModifiers())) {
                there.add(method.getReturnType().getSimpleName() + " " + method.getName() + "("
                        + names(method.getParameterTypes()) + ") " + names(method.getExceptionTypes()));
                TestKit.due(method + " is public alone", method.getModifiers(), Modifier.PUBLIC);
            }
        }
        TestKit.due("methods told", told.size(), 40);
        TestKit.due("methods", there, told);
    }

    /** Word for word, with the names of the parameters, and in the document's order. */
    private static void faceIsWrittenAsInTheDocument(String source) throws IOException {
        String written = source.replaceAll("\\s+", " ");
        Matcher member = Pattern.compile("(?m)^    (public [^;]*);$").matcher(Files.readString(DOCUMENT));
        int at = 0;
        int members = 0;
        while (member.find()) {
            int found = written.indexOf(" " + member.group(1) + " {", at);
            TestKit.due(member.group(1) + " stands behind the one before", found >= at, true);
            at = Math.max(at, found);
            members++;
        }
        TestKit.due("members told", members, 41);
    }

    private static String names(Class<?>[] types) {
        List<String> names = new ArrayList<>();
        Arrays.stream(types).forEach(type -> names.add(type.getSimpleName()));
        return String.join(", ", names);
    }

    private static void onlyTheFaceCanBeSeen() {
        TestKit.due("the class", SisterSteps.class.getModifiers(), Modifier.PUBLIC | Modifier.FINAL);
        Constructor<?>[] constructors = SisterSteps.class.getDeclaredConstructors();
        TestKit.due("constructors", constructors.length, 1);
        TestKit.due("the constructor", constructors[0].getModifiers(), Modifier.PUBLIC);
        for (Field field : SisterSteps.class.getDeclaredFields()) {
            TestKit.due(field + " is private", Modifier.isPrivate(field.getModifiers()), true);
        }
        for (Class<?> inside : SisterSteps.class.getDeclaredClasses()) {
            TestKit.due(inside + " is private and static", inside.getModifiers() & 14, 10);
        }
    }

    private static void noPrivateMethodBearsAPublicName() {
        TreeSet<String> publicNames = new TreeSet<>();
        for (Method method : SisterSteps.class.getDeclaredMethods()) {
            if (Modifier.isPublic(method.getModifiers())) {
                publicNames.add(method.getName());
            }
        }
        List<Method> others = new ArrayList<>(List.of(SisterSteps.class.getDeclaredMethods()));
        for (Class<?> inside : SisterSteps.class.getDeclaredClasses()) {
            others.addAll(List.of(inside.getDeclaredMethods()));
        }
        for (Method method : others) {
            if (!Modifier.isPublic(method.getModifiers())) {
                TestKit.due(method + " has a name of its own", publicNames.contains(method.getName()), false);
            }
        }
    }

    private static void fieldsAreFew() {
        List<Class<?>> classes = new ArrayList<>(List.of(SisterSteps.class.getDeclaredClasses()));
        classes.add(SisterSteps.class);
        TestKit.due("at most twelve classes", classes.size() <= 12, true);
        for (Class<?> one : classes) {
            long fields = Arrays.stream(one.getDeclaredFields())
                    .filter(field -> !Modifier.isStatic(field.getModifiers())).count();
            TestKit.due(one + " has at most twenty fields", fields <= 20, true);
            for (Field field : one.getDeclaredFields()) {
                boolean isState = Modifier.isStatic(field.getModifiers()) && !Modifier.isFinal(field.getModifiers());
                TestKit.due(field + " is no static state", isState, false);
            }
            for (Method method : one.getDeclaredMethods()) {
                TestKit.due(method + " has at most seven parameters", method.getParameterCount() <= 7, true);
            }
        }
    }

    private static String withoutTexts(String source) {
        return source.replaceAll("\"[^\"\n]*\"", "TEXT").replaceAll("'[^'\n]+'", "SIGN")
                .replaceAll("//[^\n]*", "").replaceAll("(?s)/\\*.*?\\*/", "");
    }

    private static void wordsAreThoseOfTheLanguage(String code) {
        String[] strangers = {"\\btry\\b", "\\bcatch\\b", "\\bfinally\\b", "\\bsynchronized\\b", "\\bassert\\b",
            "\\binstanceof\\b", "\\bvar\\b", "\\bpackage\\b", "\\bprotected\\b", "\\bstatic \\{", "->", "::", "hashCode",
            "toString", "Exact\\b", "List\\b", "System\\.(?!arraycopy)", "Arrays\\.(?!fill)", "Math\\.(?!min|max)",
            "Integer\\.(?!bitCount)", "TEXT \\+", "\\+ TEXT"};
        for (String stranger : strangers) {
            TestKit.due(stranger + " is there", Pattern.compile(stranger).matcher(code).find(), false);
        }
        Matcher imports = Pattern.compile("import ([^;]*);").matcher(code);
        while (imports.find()) {
            boolean isAllowed = List.of("java.util.Arrays", "java.util.NoSuchElementException")
                    .contains(imports.group(1));
            TestKit.due("import of " + imports.group(1), isAllowed, true);
        }
        TestKit.due("plain signs alone", code.chars().allMatch(sign -> sign < 128), true);
    }

    private static void methodsAreShort(String source) {
        String[] lines = source.split("\n");
        for (String indent : List.of("    ", "        ")) {
            int begin = 0;
            for (int number = 0; number < lines.length; number++) {
                if (lines[number].matches(indent + "(?!if |for |while |switch )\\w[^;]*\\([^;]*")) {
                    begin = number;
                }
                if (lines[number].equals(indent + "}")) {
                    boolean isShort = begin == 0 || number - begin < LONGEST_METHOD;
                    TestKit.due("the method down to line " + (number + 1) + " is short", isShort, true);
                    begin = 0;
                }
            }
        }
    }
}
