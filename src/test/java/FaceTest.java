import java.io.IOException;
import java.lang.reflect.Field;
import java.lang.reflect.Method;
import java.lang.reflect.Modifier;
import java.nio.file.Files;
import java.nio.file.Path;
import java.util.Arrays;
import java.util.TreeSet;
import java.util.regex.Matcher;
import java.util.regex.Pattern;

/** The class's face is the document's and no more; its text keeps to those rules of LANGUAGE.md that a glance can see. */
final class FaceTest {
    private static final Check CHECK = new Check("FaceTest");
    private static final String[] METHODS = {
        "int lay(int,int,int,int)", "int of(int,int)", "int children(int,int)", "int fall()", "int feed(int,int)",
        "int winter()", "int told(int,int)", "int warm(int,boolean)", "int place(int,int,int)", "int cold(int)",
        "int go(int)", "int when(int)", "int thin(int,int)", "int reach(int)", "int sweep(int,int)", "int lamp(int)",
        "int board(int,int,int)", "int rope()", "int hole(int,int,int)", "int off(int)", "int likely()",
        "int blows(int)", "int odds(int,int)", "long sure(int,int)", "int judge(int,int)", "int image()", "int undo()",
        "int act(int,int,int)", "int trace(int)", "int taken(int,int)", "int count(int)", "int tape(int,int,int)",
        "int item(int,int,long)", "long read(int,int)", "int shift(int,int,int,int,int)"};
    private static final String[] WORDS_RULED_OUT = {
        "\\bthrow\\b", "\\bthrows\\b", "\\btry\\b", "\\bcatch\\b", "\\bfinally\\b", "\\bsynchronized\\b", "\\bassert\\b",
        "->", "::", "\\bimport\\b", "\\bpackage\\b", "\\bprotected\\b", "Exact\\(", "\\bfloat\\b", "\\bdouble\\b",
        "\\bObject\\b", "\\bSystem\\.(?!arraycopy)", "\\bstatic\\s*\\{", "\\bvar\\b", "\\byield\\b", "\\bsuper\\b"};

    private static String signature(Method method) {
        StringBuilder all = new StringBuilder(method.getReturnType() + " " + method.getName() + "(");
        for (Class<?> type : method.getParameterTypes()) {
            if (all.charAt(all.length() - 1) != '(') all.append(',');
            all.append(type);
        }
        return all.append(')').toString();
    }

    private static void holds(String what, boolean is) {
        CHECK.due(what, is ? 1 : 0, 1);
    }

    private static void theFaceIsTheDocuments() {
        Class<?> face = IceBears.class;
        holds("public and final", Modifier.isPublic(face.getModifiers()) && Modifier.isFinal(face.getModifiers()));
        TreeSet<String> found = new TreeSet<>();
        TreeSet<String> names = new TreeSet<>();
        for (Method method : face.getDeclaredMethods()) {
            if (Modifier.isPublic(method.getModifiers())) {
                found.add(signature(method));
                names.add(method.getName());
            } else {
                holds(method + " is private", Modifier.isPrivate(method.getModifiers()));
            }
        }
        holds("the methods: " + found, found.equals(new TreeSet<>(Arrays.asList(METHODS))));
        CHECK.due("constructors", face.getDeclaredConstructors().length, 1);
        for (Method method : face.getDeclaredMethods()) {
            boolean isHidden = Modifier.isPrivate(method.getModifiers());
            holds(method + " bears no name of a public one", !isHidden || !names.contains(method.getName()));
        }
        TreeSet<String> constants = new TreeSet<>();
        for (Field field : face.getDeclaredFields()) {
            boolean isStatic = Modifier.isStatic(field.getModifiers());
            holds(field + " is final, if it is static", !isStatic || Modifier.isFinal(field.getModifiers()));
            if (!Modifier.isPrivate(field.getModifiers())) constants.add(field.getType() + " " + field.getName());
        }
        holds("the constants: " + constants, constants.toString().equals("[int BAD, int FULL, int NONE, int STATE, long NO]"));
    }

    private static void theConstantsAreTheDocuments() {
        CHECK.due("NONE", IceBears.NONE, -1);
        CHECK.due("BAD", IceBears.BAD, -2);
        CHECK.due("STATE", IceBears.STATE, -3);
        CHECK.due("FULL", IceBears.FULL, -4);
        CHECK.due("NO", IceBears.NO, Long.MIN_VALUE);
    }

    private static void classesInsideAreFewAndSmall() {
        Class<?>[] inside = IceBears.class.getDeclaredClasses();
        holds("some twelve classes at most", inside.length < 12);
        for (Class<?> one : inside) {
            int modifiers = one.getModifiers();
            holds(one + " is static", Modifier.isStatic(modifiers));
            holds(one + " is not public", !Modifier.isPublic(modifiers) && !Modifier.isProtected(modifiers));
            int fields = 0;
            for (Field field : one.getDeclaredFields()) {
                boolean isStatic = Modifier.isStatic(field.getModifiers());
                holds(field + " is final, if it is static", !isStatic || Modifier.isFinal(field.getModifiers()));
                if (!isStatic) fields++;
            }
            holds(one + " has some twenty fields at most", fields <= 20);
            for (Method method : one.getDeclaredMethods()) {
                holds(method + " takes seven at most", method.getParameterCount() <= 7);
            }
        }
    }

    private static void theTextKeepsToTheRules() throws IOException {
        String text = Files.readString(Path.of("src/main/java/IceBears.java"));
        String code = text.replaceAll("(?s)/\\*.*?\\*/", " ").replaceAll("//[^\n]*", " ").replaceAll("\"[^\"\n]*\"", "\"\"");
        for (String word : WORDS_RULED_OUT) {
            Matcher matcher = Pattern.compile(word).matcher(code);
            holds("the text has no " + word, !matcher.find());
        }
        for (char sign : text.toCharArray()) {
            if (sign > 126) holds("signs are 1 to 126", false);
        }
    }

    public static void main(String[] args) throws IOException {
        theFaceIsTheDocuments();
        theConstantsAreTheDocuments();
        classesInsideAreFewAndSmall();
        theTextKeepsToTheRules();
        CHECK.end();
    }
}
