import java.lang.reflect.Constructor;
import java.lang.reflect.Field;
import java.lang.reflect.Method;
import java.lang.reflect.Modifier;
import java.nio.charset.StandardCharsets;
import java.nio.file.Files;
import java.nio.file.Path;
import java.util.ArrayList;
import java.util.Collections;
import java.util.List;

/** The public face, and what of ../shared/LANGUAGE.md can be seen from the class and its text. */
public final class FaceTest {
    private static final String[] FACE = {
        "int type(char)", "int number(int)", "int text()", "int variable(int)", "int make(char,int,int,int)",
        "int assign(char,int,int)", "int exchange(char,int,int)", "int call(int,int,int)", "boolean define(int,int)",
        "int begin(int)", "char next()", "char kind()", "int value()", "int length()", "char charAt(int)",
        "char error()", "int trace()", "int traceAt(int)", "boolean hasVariable(int)", "int variableNow(int)",
        "int subjectLength()", "int place()", "int countHanded(int,int)", "int handed(int,int)", "int runs()",
        "long steps()", "int values()", "float errorShare()", "double meanSteps()", "boolean isSound()"};

    public static void main(String[] args) throws Exception {
        face();
        members(DoorScan.class);
        for (Class<?> inside : DoorScan.class.getDeclaredClasses()) {
            Kit.due("static and not public: " + inside, Modifier.isStatic(inside.getModifiers())
                    && !Modifier.isPublic(inside.getModifiers()) && !Modifier.isProtected(inside.getModifiers()), true);
            members(inside);
        }
        text();
        Kit.end();
    }

    private static void face() {
        List<String> due = new ArrayList<>();
        List<String> got = new ArrayList<>();
        Collections.addAll(due, FACE);
        for (Method method : DoorScan.class.getDeclaredMethods()) {
            if (!Modifier.isPrivate(method.getModifiers())) {
                StringBuilder row = new StringBuilder();
                for (Class<?> parameter : method.getParameterTypes()) {
                    row.append(row.length() == 0 ? "" : ",").append(parameter.getSimpleName());
                }
                got.add(method.getReturnType().getSimpleName() + " " + method.getName() + "(" + row + ")");
            }
        }
        Collections.sort(due);
        Collections.sort(got);
        Kit.due("the public methods", got, due);
        Constructor<?>[] constructors = DoorScan.class.getDeclaredConstructors();
        Kit.due("constructors", constructors.length, 1);
        Kit.due("its parameters", constructors[0].getParameterCount(), 0);
        Kit.due("final", Modifier.isFinal(DoorScan.class.getModifiers()), true);
        for (Field field : DoorScan.class.getDeclaredFields()) {
            Kit.due("private: " + field, Modifier.isPrivate(field.getModifiers()), true);
        }
    }

    private static void members(Class<?> some) {
        for (Field field : some.getDeclaredFields()) {
            if (Modifier.isStatic(field.getModifiers())) {
                Kit.due("final: " + field, Modifier.isFinal(field.getModifiers()), true);
                Kit.due("a constant: " + field, field.getType().isPrimitive(), true);
            }
        }
        for (Method method : some.getDeclaredMethods()) {
            Kit.due("parameters of " + method, method.getParameterCount() <= 7, true);
            if (Modifier.isPrivate(method.getModifiers()) || some != DoorScan.class) {
                for (String face : FACE) {
                    Kit.due("the name of " + method, face.contains(" " + method.getName() + "("), false);
                }
            }
        }
    }

    private static void text() throws Exception {
        String text = new String(Files.readAllBytes(Path.of("src/main/java/DoorScan.java")), StandardCharsets.UTF_8);
        for (String line : text.split("\n")) {
            String code = line.replaceAll("//.*", "").replaceAll("'.'", "''").trim();
            for (String bad : new String[] {"->", "::", "catch", "finally", "synchronized", "assert ", "instanceof",
                "toString", "hashCode", "Exact(", "static {", "@Override", "\" +", "+ \""}) {
                boolean isComment = code.startsWith("*") || code.startsWith("/*");
                Kit.due(bad + " in " + line, !isComment && code.contains(bad), false);
            }
            Kit.due("signs of " + line, line.chars().allMatch(sign -> sign >= 32 && sign < 127), true);
            Kit.due("the length of " + line, line.length() <= 120, true);
        }
    }
}
