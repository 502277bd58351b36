import java.io.IOException;
import java.lang.reflect.Constructor;
import java.lang.reflect.Field;
import java.lang.reflect.Method;
import java.lang.reflect.Modifier;
import java.nio.file.Files;
import java.nio.file.Path;
import java.util.ArrayList;
import java.util.List;
import java.util.Set;
import java.util.TreeSet;
import java.util.regex.Matcher;
import java.util.regex.Pattern;

/** The face of the class, and those rules of LANGUAGE.md that can be seen from outside or by words. */
public final class LanguageTest {
    private static final Due DUE = new Due("LanguageTest");
    private static final Path SOURCE = Path.of("src/main/java/ObjectBase.java");

    private static final Set<String> FACE = new TreeSet<>(List.of(
        "int type(int)", "int field(int,int,int)", "int index(int,int,int,int)", "boolean begin()", "int make(int)",
        "boolean put(int,int,int)", "boolean point(int,int,int)", "boolean join(int,int,int,boolean)", "boolean name(int,int)",
        "int commit()", "boolean abort()", "int collect()", "boolean arm(int)", "boolean crash()", "int recover()",
        "int classOf(int)", "boolean reached(int)", "int get(int,int)", "boolean holds(int,int,int)", "int named(int)",
        "boolean draft(long)", "int prepare()", "int ask(int)", "long sum()", "int hit(int)", "int look(int)"));

    public static void main(String[] args) throws IOException {
        face();
        members(ObjectBase.class);
        for (Class<?> inner : ObjectBase.class.getDeclaredClasses()) {
            DUE.yes(inner + " is private and static", Modifier.isPrivate(inner.getModifiers()) && Modifier.isStatic(inner.getModifiers()));
            members(inner);
        }
        DUE.yes("at most twelve classes", ObjectBase.class.getDeclaredClasses().length + 1 <= 12);
        words(Files.readString(SOURCE));
        lengths(Files.readAllLines(SOURCE));
        DUE.end();
    }

    private static void face() {
        int modifiers = ObjectBase.class.getModifiers();
        DUE.yes("public and final", Modifier.isPublic(modifiers) && Modifier.isFinal(modifiers));
        DUE.is("BAD", ObjectBase.BAD, -1);
        DUE.is("ROOM", ObjectBase.ROOM, -3);
        DUE.is("DOWN", ObjectBase.DOWN, -4);
        Set<String> found = new TreeSet<>();
        Set<String> names = new TreeSet<>();
        for (Method method : ObjectBase.class.getDeclaredMethods()) {
            if (Modifier.isPublic(method.getModifiers())) {
                List<String> types = new ArrayList<>();
                for (Class<?> type : method.getParameterTypes()) {
                    types.add(type.getName());
                }
                found.add(method.getReturnType() + " " + method.getName() + "(" + String.join(",", types) + ")");
                names.add(method.getName());
            }
        }
        DUE.yes("the methods of the face, and no others: " + found, found.equals(FACE));
        for (Method method : ObjectBase.class.getDeclaredMethods()) {
            boolean isPublic = Modifier.isPublic(method.getModifiers());
            DUE.yes(method + " is private", isPublic || Modifier.isPrivate(method.getModifiers()));
            DUE.no(method + " bears the name of a public one", !isPublic && names.contains(method.getName()));
        }
        Constructor<?>[] constructors = ObjectBase.class.getDeclaredConstructors();
        DUE.yes("one public constructor without parameters", constructors.length == 1
            && Modifier.isPublic(constructors[0].getModifiers()) && constructors[0].getParameterCount() == 0);
        for (Field field : ObjectBase.class.getDeclaredFields()) {
            boolean constant = Set.of("BAD", "ROOM", "DOWN").contains(field.getName());
            DUE.yes(field + " is seen as it should be", constant == Modifier.isPublic(field.getModifiers())
                && (constant || Modifier.isPrivate(field.getModifiers())));
        }
    }

    private static void members(Class<?> of) {
        int fields = 0;
        for (Field field : of.getDeclaredFields()) {
            boolean isStatic = Modifier.isStatic(field.getModifiers());
            DUE.yes(field + " is final if it is static", !isStatic || Modifier.isFinal(field.getModifiers()));
            fields += isStatic ? 0 : 1;
        }
        DUE.yes(of + " has at most twenty fields", fields <= 20);
        for (Method method : of.getDeclaredMethods()) {
            DUE.yes(method + " takes at most seven", method.getParameterCount() <= 7);
        }
    }

    private static void words(String source) {
        String code = source.replaceAll("(?s)/\\*.*?\\*/", " ").replaceAll("//[^\n]*", " ").replaceAll("'.'", "' '");
        String[] forbidden = {
            "->", "::", "\"", "\\bpackage\\b", "\\bimport\\b", "\\bthrow\\b", "\\bthrows\\b", "\\btry\\b", "\\bcatch\\b",
            "\\bfinally\\b", "\\bsynchronized\\b", "\\bassert\\b", "\\bvar\\b", "\\bequals\\b", "\\bhashCode\\b", "\\btoString\\b",
            "\\bstatic\\s*\\{", "\\bfloat\\b", "\\bdouble\\b", "\\bprotected\\b", "\\bnative\\b", "\\bvolatile\\b", "\\bnanoTime\\b",
        };
        for (String word : forbidden) {
            DUE.no("has " + word, Pattern.compile(word).matcher(code).find());
        }
        Set<String> library = Set.of("System.arraycopy", "Long.bitCount", "Long.MIN_VALUE");
        Matcher used = Pattern.compile("\\b(System|Long|Integer|Math|Arrays|Character|String|Object|Thread)\\.\\w+").matcher(code);
        while (used.find()) {
            DUE.yes(used.group() + " is of the library that may be used", library.contains(used.group()));
        }
        DUE.yes("Texts hold characters 0 to 255 alone", source.chars().allMatch(c -> c < 128));
    }

    /** A method begins where a line at depth one or two ends with an opening brace behind brackets. */
    private static void lengths(List<String> lines) {
        Pattern head = Pattern.compile("( {4}| {8})\\S.*\\) \\{");
        for (int i = 0; i < lines.size(); i++) {
            Matcher matcher = head.matcher(lines.get(i));
            if (matcher.matches()) {
                int end = i;
                while (!lines.get(end).equals(matcher.group(1) + "}")) {
                    end++;
                }
                DUE.yes("line " + (i + 1) + ": at most sixty lines", end - i < 60);
            }
        }
    }
}
