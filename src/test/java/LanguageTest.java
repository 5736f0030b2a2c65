import java.io.IOException;
import java.lang.reflect.Constructor;
import java.lang.reflect.Field;
import java.lang.reflect.Method;
import java.lang.reflect.Modifier;
import java.nio.charset.StandardCharsets;
import java.nio.file.Files;
import java.nio.file.Path;
import java.util.Set;
import java.util.TreeSet;
import java.util.regex.Matcher;
import java.util.regex.Pattern;

/** The rules of LANGUAGE.md that can be read off the source or the class. */
public final class LanguageTest {
    private static final String[] FACE = {
        "int setGround(int,int)", "int setFog(int,int)", "int tower(int,int)", "boolean breakDown(int,boolean)",
        "int line()", "int extend(int,int)", "boolean sees(int,int,boolean)", "boolean isBlind(int)",
        "int type(int)", "int put(int,int)", "int courier(int)", "int doze(int,int)",
        "boolean bribe(int,int,int)", "int book(int)", "int setWord(int,int,int)", "int pass(int)", "int minute()",
        "int shows(int)", "int logged(int)", "int inLog(int,int,char)", "char state(int)", "int came(int)",
        "int signalAt(int,int)", "int meaning(int,int)", "int deliveredAt(int)", "boolean isRight(int)",
        "int blame(int)", "int bill(int)", "int plan(int,int,int)", "int planned(int)", "long signals()",
        "float rightShare()", "double meanMinutes()", "boolean isConsistent()"
    };

    private static final String[] BANNED = {
        "::", "\\)\\s*->", "=\\s*\\w+\\s*->", "\\(\\s*\\w+\\s*->", "\\bfinally\\b", "\\bsynchronized\\b",
        "\\bassert\\b", "\\bMath\\.\\w+Exact\\b", "\\bSystem\\.(?!arraycopy)", "\\bextends \\w*Exception\\b",
        "\"\\s*\\+", "\\+\\s*\"", "\\bstatic \\{", "\\bboolean equals\\b", "\\bint hashCode\\b",
        "\\bString toString\\b", "\\bThread\\b", "\\bObject\\b",
        "catch \\((final )?(ArrayIndex\\w*|StringIndex\\w*|NullPointer\\w*|ClassCast\\w*|NegativeArray\\w*"
                + "|ArrayStore\\w*|Exception|Throwable|Error)\\b"
    };

    private static final Set<String> THROWN = Set.of("IllegalStateException", "IllegalArgumentException",
            "IndexOutOfBoundsException", "ArithmeticException", "UnsupportedOperationException",
            "NoSuchElementException", "RuntimeException");

    private static final Set<String> IMPORTED = Set.of("java.util.NoSuchElementException", "java.util.ArrayList",
            "java.util.List", "java.util.Arrays", "java.util.Iterator");

    public static void main(String[] args) throws IOException {
        String source = Files.readString(Path.of("src/main/java/ChappeLine.java"), StandardCharsets.UTF_8);
        String code = source.replaceAll("(?s)/\\*.*?\\*/", " ").replaceAll("//[^\n]*", " ");
        face();
        members();
        text(source, code);
        methodsAreShort(code);
        Check.end("LanguageTest");
    }

    private static void face() {
        Set<String> want = new TreeSet<>(Set.of(FACE));
        Set<String> got = new TreeSet<>();
        Set<String> names = new TreeSet<>();
        for (Method method : ChappeLine.class.getDeclaredMethods()) {
            if (Modifier.isPublic(method.getModifiers())) {
                String whole = method.toString().replaceAll(" throws .*", "");
                got.add(whole.replace("public ", "").replace("final ", "").replace("ChappeLine.", ""));
                names.add(method.getName());
            }
        }
        Check.due("1: the face", got, want);
        for (Method method : ChappeLine.class.getDeclaredMethods()) {
            int flags = method.getModifiers();
            Check.due("1: " + method.getName(), Modifier.isPrivate(flags) && !names.contains(method.getName())
                    || Modifier.isPublic(flags) && !Modifier.isStatic(flags), true);
        }
        Check.due("1: public and final", ChappeLine.class.getModifiers(), Modifier.PUBLIC | Modifier.FINAL);
        Constructor<?>[] constructors = ChappeLine.class.getDeclaredConstructors();
        Check.due("1: one constructor", constructors.length, 1);
        Check.due("1: without arguments", constructors[0].getParameterCount(), 0);
        Check.due("1: public constructor", Modifier.isPublic(constructors[0].getModifiers()), true);
        for (Field field : ChappeLine.class.getDeclaredFields()) {
            Check.due("1: field " + field.getName(), Modifier.isPrivate(field.getModifiers()), true);
        }
    }

    private static void members() {
        Class<?>[] inner = ChappeLine.class.getDeclaredClasses();
        Check.due("11: classes", inner.length + 1 <= 12, true);
        memberCounts(ChappeLine.class);
        for (Class<?> each : inner) {
            int flags = each.getModifiers();
            Check.due("1: static " + each, Modifier.isStatic(flags), true);
            Check.due("1: not public " + each, !Modifier.isPublic(flags) && !Modifier.isProtected(flags), true);
            for (Method method : each.getDeclaredMethods()) {
                boolean isOfFace = Pattern.compile(" " + method.getName() + "\\(")
                        .matcher(String.join(";", FACE)).find();
                Check.due("1: not a name of the face " + method,
                        isOfFace && Modifier.isPrivate(method.getModifiers()), false);
            }
            memberCounts(each);
        }
    }

    private static void memberCounts(Class<?> of) {
        int own = 0;
        for (Field field : of.getDeclaredFields()) {
            boolean isStatic = Modifier.isStatic(field.getModifiers());
            own += isStatic ? 0 : 1;
            Check.due("5: static " + field, !isStatic || Modifier.isFinal(field.getModifiers()), true);
        }
        Check.due("11: fields of " + of, own <= 20, true);
        for (Method method : of.getDeclaredMethods()) {
            Check.due("11: parameters of " + method, method.getParameterCount() <= 7, true);
        }
    }

    private static void text(String source, String code) {
        Check.due("4: signs", source.chars().allMatch(c -> c == '\n' || c >= 32 && c < 127), true);
        for (String banned : BANNED) {
            Check.due("no " + banned, Pattern.compile(banned).matcher(code).find(), false);
        }
        Matcher imports = Pattern.compile("\\bimport\\s+([\\w.*]+)").matcher(code);
        while (imports.find()) {
            Check.due("4: import " + imports.group(1), IMPORTED.contains(imports.group(1)), true);
        }
        Matcher thrown = Pattern.compile("\\bthrow\\b\\s*(\\S+)\\s*(\\w*)(\\([^)]*\\);)?").matcher(code);
        while (thrown.find()) {
            boolean isNew = thrown.group(1).equals("new") && THROWN.contains(thrown.group(2))
                    && thrown.group(3) != null && thrown.group(3).matches("\\((\"[^\"]*\")?\\);");
            Check.due("6: " + thrown.group(), isNew, true);
        }
    }

    private static void methodsAreShort(String code) {
        int start = 0;
        int number = 0;
        boolean isInMethod = false;
        String end = "";
        for (String line : code.split("\n")) {
            number++;
            if (!isInMethod && line.matches(" {4,8}(\\w[\\w\\[\\] ]*)\\(.*") && !line.contains(";")) {
                isInMethod = true;
                start = number;
                end = line.replaceAll("\\S.*", "") + "}";
            } else if (isInMethod && line.equals(end)) {
                isInMethod = false;
                Check.due("11: length of the method at line " + start, number - start <= 60, true);
            }
        }
        Check.due("each method has an end", isInMethod, false);
    }
}
