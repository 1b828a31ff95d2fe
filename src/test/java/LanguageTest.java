import java.io.IOException;
import java.lang.reflect.Constructor;
import java.lang.reflect.Field;
import java.lang.reflect.Method;
import java.lang.reflect.Modifier;
import java.nio.file.Files;
import java.nio.file.Path;
import java.util.Set;
import java.util.TreeSet;
import java.util.regex.Matcher;
import java.util.regex.Pattern;

/** The face of the class, and the rules of LANGUAGE.md that can be seen from outside. Run from the project's folder. */
public final class LanguageTest {
    private static final String[] FACE = {
        "hank(int,int,int)", "ounces(int,int)", "fade(int,int)", "coat(int,int,int)", "told(int,int)",
        "hankTold(int,int)", "feed(int,long)", "text()", "force(int)", "seen(int,int)", "mayMeet(int,int,int)",
        "between(int,int,int)", "range(int)", "judge(int,int)", "can(int,int)", "knit(int,int,int)", "undo(int)",
        "most(int)", "more(int)", "late(int)", "image()", "back()", "count(int)", "sheet(int,int,int)",
        "cell(int,int,int)", "copy(int,int,int,int,int)", "hanks(int,int,int,int)", "taken(int,int)"};
    /** Patterns of what the program must not hold, outside its comments and texts. */
    private static final String[] BANNED = {
        "\\bthrows?\\b", "\\btry\\b", "\\bcatch\\b", "\\bsynchronized\\b", "\\bassert\\b", "\\bprotected\\b",
        "\\bpackage\\b", "\\bvar\\b", "\\bdouble\\b", "\\bfloat\\b", "\\bObject\\b", "\\bhashCode\\b", "\\btoString\\b",
        "Exception", "Error", "Thread", "Random", "Exact\\b", "->", "::", "@", "static\\s*\\{"};
    private static int wrong = 0;

    private static void check(boolean holds, String what) {
        if (!holds) {
            wrong++;
            System.out.println("not so: " + what);
        }
    }

    private static String signature(Method method) {
        StringBuilder text = new StringBuilder(method.getName()).append('(');
        for (Class<?> type : method.getParameterTypes()) {
            text.append(text.charAt(text.length() - 1) == '(' ? "" : ",").append(type.getName());
        }
        return text.append(')').toString();
    }

    private static void checkFace() {
        Class<?> face = SleeveDarker.class;
        check(Modifier.isPublic(face.getModifiers()) && Modifier.isFinal(face.getModifiers()), "public and final");
        Set<String> open = new TreeSet<>();
        Set<String> names = new TreeSet<>();
        for (Method method : face.getDeclaredMethods()) {
            if (!Modifier.isPrivate(method.getModifiers())) {
                check(Modifier.isPublic(method.getModifiers()), method + " is public");
                check(method.getReturnType() == int.class, method + " answers an int");
                open.add(signature(method));
                names.add(method.getName());
            }
        }
        check(open.equals(new TreeSet<>(Set.of(FACE))), "the methods are those of the document: " + open);
        Set<String> fields = new TreeSet<>();
        for (Field field : face.getDeclaredFields()) {
            if (!Modifier.isPrivate(field.getModifiers())) {
                fields.add(field.getType() + " " + field.getName());
            }
        }
        check(fields.equals(Set.of("int NONE", "int BAD", "int STATE", "int FULL", "long NO")), "the constants: " + fields);
        Constructor<?>[] made = face.getDeclaredConstructors();
        check(made.length == 1 && made[0].getParameterCount() == 0 && Modifier.isPublic(made[0].getModifiers()),
                "one public constructor");
        checkClass(face, names);
        Class<?>[] inside = face.getDeclaredClasses();
        check(inside.length < 12, "at most twelve classes");
        for (Class<?> each : inside) {
            check(Modifier.isStatic(each.getModifiers()), each + " is static");
            checkClass(each, names);
        }
    }

    private static void checkClass(Class<?> each, Set<String> faceNames) {
        int fields = 0;
        for (Field field : each.getDeclaredFields()) {
            boolean isStatic = Modifier.isStatic(field.getModifiers());
            check(!isStatic || Modifier.isFinal(field.getModifiers()), field + " is final");
            fields += isStatic ? 0 : 1;
        }
        check(fields <= 20, each + " has at most twenty fields");
        for (Method method : each.getDeclaredMethods()) {
            check(method.getParameterCount() <= 7, method + " takes at most seven");
            check(each == SleeveDarker.class && Modifier.isPublic(method.getModifiers())
                    || !faceNames.contains(method.getName()), method + " bears no name of the face");
        }
    }

    private static void checkSource() throws IOException {
        String source = Files.readString(Path.of("src/main/java/SleeveDarker.java"));
        String bare = source.replaceAll("(?s)/\\*.*?\\*/", "").replaceAll("//[^\n]*", "").replaceAll("\"[^\"\n]*\"", "\"\"");
        for (String banned : BANNED) {
            check(!Pattern.compile(banned).matcher(bare).find(), "no " + banned + " in the source");
        }
        Matcher imports = Pattern.compile("(?m)^import (.*);$").matcher(bare);
        while (imports.find()) {
            check(Set.of("java.util.Arrays", "java.util.ArrayList", "java.util.List").contains(imports.group(1)),
                    "import " + imports.group(1) + " is allowed");
        }
        check(source.chars().allMatch(sign -> sign < 128), "signs are 1 to 127");
    }

    public static void main(String[] args) throws IOException {
        checkFace();
        checkSource();
        System.out.println(wrong == 0 ? "the rules are kept" : wrong + " rules are not kept");
        if (wrong != 0) {
            System.exit(1);
        }
    }
}
