import java.io.IOException;
import java.lang.reflect.Member;
import java.lang.reflect.Method;
import java.lang.reflect.Modifier;
import java.nio.file.Files;
import java.nio.file.Path;
import java.util.ArrayList;
import java.util.List;
import java.util.Set;
import java.util.TreeSet;
import java.util.regex.Matcher;
import java.util.regex.Pattern;

/** The face of AlikeHands is the document's and no more, and its text keeps what of LANGUAGE.md can be seen in it. */
public final class FaceTest {
    private static final Set<String> FACE = Set.of(
            "int row(int,int,int)", "int set(int,int,int)", "int copy(int,int,int,int,int)", "int drop(int)",
            "int feed(long,int)", "int clock()", "int fault()", "int slip(int,int)", "int undo()",
            "int hand(int,int)", "int points(int,int,int,int)", "int doubts(int,int)",
            "int doubt(int,int,int,int)", "int isDoubt(int,int,int,int)", "int next(int,int,int,int,int,int)",
            "int often(int,int,int)", "int all()", "int lies(int,int,int,int)", "int firstLie(int,int,int)",
            "int glass(int,int,int)", "int image(int)", "int restore(int)", "int kind(int)", "int as(int,int)",
            "int ask(int,int)", "int trace(int)", "int count(int)", "int status()");
    private static final Set<String> CONSTANTS = Set.of("NONE", "BAD", "STATE", "FULL");
    private static final String[] NOT_ALLOWED = {
        "\\bthrow\\b", "\\btry\\b", "\\bcatch\\b", "\\bsynchronized\\b", "\\bassert\\b", "->", "::",
        "\\bequals\\b", "\\bhashCode\\b", "\\btoString\\b", "\\bThread\\b", "\\bSystem\\.(?!arraycopy\\b)",
        "\\bRandom\\b", "\\bnull\\b", "\\w+Exact\\b", "[^\\x00-\\x7f]"
    };
    private static int wrong = 0;

    private static void wrong(String what) {
        wrong++;
        System.out.println(what);
    }

    private static boolean isPrivate(Member member) {
        return Modifier.isPrivate(member.getModifiers());
    }

    private static void checkMethods() {
        Set<String> found = new TreeSet<>();
        Set<String> names = new TreeSet<>();
        List<Method> own = new ArrayList<>();
        for (Method method : AlikeHands.class.getDeclaredMethods()) {
            if (isPrivate(method)) {
                own.add(method);
                continue;
            }
            List<String> types = new ArrayList<>();
            for (Class<?> type : method.getParameterTypes()) {
                types.add(type.getName());
            }
            found.add(method.getReturnType() + " " + method.getName() + "(" + String.join(",", types) + ")");
            names.add(method.getName());
            if (!Modifier.isPublic(method.getModifiers()) || Modifier.isStatic(method.getModifiers())) {
                wrong("not as in the face: " + method);
            }
        }
        for (Class<?> inside : AlikeHands.class.getDeclaredClasses()) {
            own.addAll(List.of(inside.getDeclaredMethods()));
            if (Modifier.isPublic(inside.getModifiers()) || !Modifier.isStatic(inside.getModifiers())) {
                wrong("a class inside has to be static and not public: " + inside);
            }
        }
        if (!found.equals(FACE)) {
            wrong("the face is " + found);
        }
        for (Method method : own) {
            if (names.contains(method.getName())) {
                wrong("bears the name of a public one: " + method);
            }
            if (method.getParameterCount() > 7) {
                wrong("more than seven parameters: " + method);
            }
        }
    }

    private static void checkFields() {
        Set<String> open = new TreeSet<>();
        for (java.lang.reflect.Field field : AlikeHands.class.getDeclaredFields()) {
            if (Modifier.isStatic(field.getModifiers()) && !Modifier.isFinal(field.getModifiers())) {
                wrong("static and not final: " + field);
            }
            if (!isPrivate(field)) {
                open.add(field.getName());
            }
        }
        if (!open.equals(CONSTANTS)) {
            wrong("the open fields are " + open);
        }
        if (AlikeHands.class.getDeclaredConstructors().length != 1 || !Modifier.isFinal(AlikeHands.class.getModifiers())) {
            wrong("one constructor, and final");
        }
    }

    private static void checkText() throws IOException {
        String text = Files.readString(Path.of("src/main/java/AlikeHands.java"));
        String code = text.replaceAll("(?s)/\\*.*?\\*/|//[^\\n]*", "");
        for (String not : NOT_ALLOWED) {
            Matcher matcher = Pattern.compile(not).matcher(code);
            if (matcher.find()) {
                wrong("the text has <" + matcher.group() + ">");
            }
        }
    }

    public static void main(String[] args) throws IOException {
        checkMethods();
        checkFields();
        checkText();
        System.out.println(wrong == 0 ? "the face is as told" : wrong + " faults of the face");
        if (wrong != 0) {
            System.exit(1);
        }
    }
}
