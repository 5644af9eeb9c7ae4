import java.io.IOException;
import java.lang.reflect.Field;
import java.lang.reflect.Member;
import java.lang.reflect.Method;
import java.lang.reflect.Modifier;
import java.nio.file.Files;
import java.nio.file.Path;
import java.util.Arrays;
import java.util.Set;
import java.util.TreeSet;
import java.util.regex.Matcher;
import java.util.regex.Pattern;

/** The face of the class is the document's and no more, and its source keeps to the plainest rules of LANGUAGE.md. */
public final class FrostHoleFace {
    private static final String[] FACE = {
        "int type 2", "int wipe 1", "int undo 1", "int fault 1", "int tool 3", "int looks 3", "int read 2",
        "int stroke 2", "int back 0", "int judged 0", "int thick 2", "int state 2", "int left 1", "int risk 1",
        "int all 1", "int first 2", "int stop 4", "int warm 3", "int crack 2", "int melts 3", "int again 4",
        "int night 3", "long tonight 5", "int cover 4", "int car 2", "int gone 0", "int lent 1", "int faced 0",
        "int bend 3", "int sheet 3", "int lose 1", "int lay 4", "int get 3", "int copy 5", "int write 2",
        "int count 1", "long digest 0"};
    private static int wrong = 0;

    private static void wrong(String what) {
        wrong++;
        System.out.println(what);
    }

    private static boolean isHidden(Member member) {
        return Modifier.isPrivate(member.getModifiers()) || member.isSynthetic();
    }

    private static void checkMembers() {
        Set<String> open = new TreeSet<>();
        Set<String> names = new TreeSet<>();
        for (String row : FACE) names.add(row.split(" ")[1]);
        for (Method method : FrostHole.class.getDeclaredMethods()) {
            if (isHidden(method)) {
                if (names.contains(method.getName())) wrong("a private method bears the name " + method.getName());
                continue;
            }
            if (!Modifier.isPublic(method.getModifiers())) wrong("neither public nor private: " + method);
            open.add(method.getReturnType() + " " + method.getName() + " " + method.getParameterCount());
        }
        if (!open.equals(new TreeSet<>(Arrays.asList(FACE)))) wrong("the methods are " + open);
        Set<String> constants = new TreeSet<>();
        for (Field field : FrostHole.class.getDeclaredFields()) {
            if (Modifier.isStatic(field.getModifiers()) && !Modifier.isFinal(field.getModifiers())) wrong("static: " + field);
            if (!isHidden(field)) constants.add(field.getName());
        }
        if (!constants.equals(new TreeSet<>(Arrays.asList("NONE", "BAD", "NOT", "FULL")))) wrong("the fields are " + constants);
        if (FrostHole.class.getConstructors().length != 1) wrong("one public constructor is due");
        if (!Modifier.isFinal(FrostHole.class.getModifiers())) wrong("the class is final");
        for (Class<?> inside : FrostHole.class.getDeclaredClasses()) {
            if (!Modifier.isStatic(inside.getModifiers())) wrong("not static: " + inside);
            if (inside.getDeclaredFields().length > 20) wrong("too many fields: " + inside);
            checkParameters(inside);
        }
        checkParameters(FrostHole.class);
        if (FrostHole.class.getDeclaredClasses().length > 12) wrong("too many classes");
    }

    private static void checkParameters(Class<?> of) {
        for (Method method : of.getDeclaredMethods()) {
            if (method.getParameterCount() > 7) wrong("too many parameters: " + method);
        }
    }

    /** Rule 4: what is named of the library is Math, System.arraycopy and Arrays.fill alone. */
    private static void checkLibrary(String code) {
        Matcher imports = Pattern.compile("(?m)^import .*$").matcher(code);
        while (imports.find()) {
            if (!imports.group().equals("import java.util.Arrays;")) wrong("the source has " + imports.group());
        }
        Matcher uses = Pattern.compile("\\b[A-Z]\\w*\\.\\w+(?=\\()").matcher(code);
        Set<String> listed = Set.of("Math.max", "Math.min", "System.arraycopy", "Arrays.fill");
        while (uses.find()) {
            if (!listed.contains(uses.group())) wrong("the source calls " + uses.group());
        }
    }

    /** Rule 11 and the one room: methods are short, and only constructors and fields make objects. */
    private static void checkMethods(String code) {
        Matcher heads = Pattern.compile("(?m)^( {4}| {8})(?!\\s)(?!.*\\bclass\\b)[^=\n;]*\\) \\{$").matcher(code);
        int methods = 0;
        while (heads.find()) {
            int end = code.indexOf("\n" + heads.group(1) + "}\n", heads.end());
            String head = heads.group().trim();
            if (isStatement(head)) continue;
            methods++;
            String body = end < 0 ? "" : code.substring(heads.end(), end);
            if (end < 0) wrong("no end is seen of " + head);
            if (body.split("\n").length > 60) wrong("too long: " + head);
            boolean makes = Pattern.compile("\\bnew\\b").matcher(body).find();
            if (makes && !head.matches("(public )?[A-Z]\\w*\\(.*")) wrong("an object is made by " + head);
        }
        if (methods < FACE.length) wrong("only " + methods + " methods are seen");
    }

    private static boolean isStatement(String head) {
        return head.matches("(if|for|while|switch|else|\\}).*");
    }

    private static void checkSource() throws IOException {
        String source = Files.readString(Path.of("src/main/java/FrostHole.java"));
        String code = source.replaceAll("(?s)/\\*.*?\\*/", "").replaceAll("//[^\n]*", "");
        checkLibrary(code);
        checkMethods(code);
        Matcher forbidden = Pattern.compile("\\b(throw|throws|try|catch|synchronized|assert|package|\\w+Exact|System\\.(?!arraycopy))\\b|->|::")
            .matcher(code);
        while (forbidden.find()) wrong("the source has " + forbidden.group());
        for (char sign : source.toCharArray()) {
            if (sign > 126) wrong("the source has sign " + (int) sign);
        }
    }

    public static void main(String[] args) throws IOException {
        checkMembers();
        checkSource();
        System.out.println(wrong == 0 ? "the face is as due" : wrong + " faults of the face");
        if (wrong != 0) System.exit(1);
    }
}
