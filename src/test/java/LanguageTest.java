import java.lang.reflect.Constructor;
import java.lang.reflect.Field;
import java.lang.reflect.Method;
import java.lang.reflect.Modifier;
import java.nio.file.Files;
import java.nio.file.Path;
import java.util.ArrayList;
import java.util.Arrays;
import java.util.List;
import java.util.Set;
import java.util.TreeSet;
import java.util.regex.Matcher;
import java.util.regex.Pattern;

/** The document's face, and the rules of LANGUAGE.md that can be seen from outside or in the text. */
public final class LanguageTest {
    private static final String[] FACE = {
        "boolean land(int,int,int)", "boolean had(int,int,int)", "int turn(int,int,int,int)",
        "int school(int,int,int,int,int,int,int)", "boolean beds(int,int)", "int feed(int,int,int,int,int)",
        "int agreement(int,int,int)", "int meets(int,int,int,int,int)", "int terms(int,int,int)",
        "int student(int,int,int,int,int)", "boolean level(int,int,int)", "boolean wish(int,int)", "int may(int,int)",
        "int round()", "boolean out(int)", "int mend()", "int kept()", "int balance(int)",
        "int course(int,int,int,int,int)", "boolean cancel(int,int,boolean)", "int study(int,int,int)",
        "boolean fact(int,int,int,int)", "int known(int,int,int)", "int visa(int,int)", "int there(int,int,int)",
        "int counts(int,int,int)", "int crowded(int,int)", "int year()", "long owed(int)", "int look(int,int)",
        "int about(int,int)", "int count(int)"};
    private static final Set<String> IMPORTS = Set.of("java.util.ArrayList", "java.util.Arrays", "java.util.List");
    private static final String FORBIDDEN = "\\b(throw|throws|try|catch|finally|synchronized|assert|volatile|native|strictfp"
            + "|System\\.(?!arraycopy)\\w+|Thread|Random|hashCode|toString|getClass|Exception|Error|\\w+Exact)\\b|->|::|@";
    private static int wrong = 0;

    public static void main(String[] args) throws Exception {
        seeFace();
        for (Class<?> c : StudentSwaps.class.getDeclaredClasses()) {
            seeInside(c);
        }
        seeFields(StudentSwaps.class);
        check(StudentSwaps.class.getDeclaredClasses().length + 1 <= 12, "too many classes");
        seeText(Files.readString(Path.of("src/main/java/StudentSwaps.java")));
        System.out.println(wrong + " rules broken");
        if (wrong != 0) {
            System.exit(1);
        }
    }

    private static void check(boolean isRight, String fault) {
        if (!isRight) {
            wrong++;
            System.out.println(fault);
        }
    }

    private static void seeFace() throws Exception {
        Set<String> due = new TreeSet<>(List.of(FACE));
        Set<String> names = faceNames();
        Set<String> seen = new TreeSet<>();
        for (Method m : StudentSwaps.class.getDeclaredMethods()) {
            boolean isPublic = Modifier.isPublic(m.getModifiers());
            check(isPublic || Modifier.isPrivate(m.getModifiers()), m + " is neither public nor private");
            check(isPublic || !names.contains(m.getName()), m + " bears the name of a public one");
            if (isPublic) {
                seen.add(shown(m));
            }
        }
        check(seen.equals(due), "the face is " + seen + ", due is " + due);
        for (Field f : StudentSwaps.class.getDeclaredFields()) {
            check(Modifier.isPrivate(f.getModifiers()) || f.getName().equals("NONE"), f + " is not private");
        }
        check(Modifier.toString(StudentSwaps.class.getField("NONE").getModifiers()).equals("public static final"), "NONE");
        check(StudentSwaps.NONE == -1, "NONE is not -1");
        check(Modifier.toString(StudentSwaps.class.getModifiers()).equals("public final"), "the class is not public and final");
        Constructor<?>[] made = StudentSwaps.class.getDeclaredConstructors();
        check(made.length == 1 && made[0].getParameterCount() == 0 && Modifier.isPublic(made[0].getModifiers()), "constructors");
    }

    private static Set<String> faceNames() {
        Set<String> names = new TreeSet<>();
        for (String one : FACE) {
            names.add(one.substring(one.indexOf(' ') + 1, one.indexOf('(')));
        }
        return names;
    }

    private static String shown(Method m) {
        List<String> types = new ArrayList<>();
        for (Class<?> type : m.getParameterTypes()) {
            types.add(type.getName());
        }
        return m.getReturnType().getName() + " " + m.getName() + "(" + String.join(",", types) + ")";
    }

    private static void seeInside(Class<?> c) {
        check(Modifier.isStatic(c.getModifiers()) && !Modifier.isPublic(c.getModifiers()), c + " is not static, or public");
        seeFields(c);
        for (Method m : c.getDeclaredMethods()) {
            check(!faceNames().contains(m.getName()), m + " bears the name of a public one");
            check(m.getParameterCount() <= 7, m + " takes too many");
        }
    }

    private static void seeFields(Class<?> c) {
        int own = 0;
        for (Field f : c.getDeclaredFields()) {
            if (Modifier.isStatic(f.getModifiers())) {
                check(Modifier.isFinal(f.getModifiers()), f + " is static and not final");
            } else {
                own++;
            }
        }
        check(own <= 20, c + " has " + own + " fields");
    }

    private static void seeText(String text) {
        for (int i = 0; i < text.length(); i++) {
            char sign = text.charAt(i);
            check(sign == '\n' || (sign >= ' ' && sign < 127), "sign " + (int) sign + " at " + i);
        }
        Matcher imported = Pattern.compile("import ([\\w.*]+);").matcher(text);
        while (imported.find()) {
            check(IMPORTS.contains(imported.group(1)), "import of " + imported.group(1));
        }
        String code = text.replaceAll("(?s)/\\*.*?\\*/", "").replaceAll("//[^\n]*", "").replaceAll("\"[^\"\n]*\"", "\"\"");
        Matcher forbidden = Pattern.compile(FORBIDDEN).matcher(code);
        while (forbidden.find()) {
            check(false, "forbidden: " + forbidden.group());
        }
        seeMethods(code);
    }

    /** A method begins with a line that opens a bracket at a class's depth, and ends where that closes. */
    private static void seeMethods(String code) {
        String[] lines = code.split("\n");
        Pattern head = Pattern.compile("^( {4}| {8})(?:public |private |static )*[\\w<>\\[\\]]+(?: (\\w+))?\\(.*");
        for (int i = 0; i < lines.length; i++) {
            Matcher m = head.matcher(lines[i]);
            if (m.matches()) {
                int last = i;
                while (last < lines.length - 1 && !lines[last].equals(m.group(1) + "}")) {
                    last++;
                }
                check(last - i < 60, "a long method: " + lines[i]);
                String body = String.join("\n", Arrays.copyOfRange(lines, i + 1, last));
                check(m.group(2) == null || mayCallItself(lines[i]) || !calls(body, m.group(2)),
                        "calls itself and is not private and static: " + lines[i]);
            }
        }
    }

    /** Rule 8: a private static method may call itself; other private methods may call one another. */
    private static boolean mayCallItself(String head) {
        return head.contains("private static ");
    }

    private static boolean calls(String body, String name) {
        return Pattern.compile("(?<![\\w.])(this\\.)?" + name + "\\(").matcher(body).find();
    }
}
