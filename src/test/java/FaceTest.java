import java.lang.reflect.Constructor;
import java.lang.reflect.Field;
import java.lang.reflect.Method;
import java.lang.reflect.Modifier;
import java.nio.file.Files;
import java.nio.file.Path;
import java.util.ArrayList;
import java.util.List;
import java.util.TreeSet;
import java.util.regex.Matcher;
import java.util.regex.Pattern;

/** The face as the document shows it, and the rules of LANGUAGE.md that can be seen from outside. Run at the root. */
public final class FaceTest {
    private static int wrong = 0;

    private static void must(boolean holds, String what) {
        if (!holds) {
            wrong++;
            System.out.println("not so: " + what);
        }
    }

    public static void main(String[] args) throws Exception {
        TreeSet<String> want = new TreeSet<>();
        String doc = Files.readString(Path.of("..", "shared", "DOC.md"));
        String face = doc.substring(doc.indexOf("public final class OpticalHouse {"), doc.indexOf("## Terms"));
        Matcher m = Pattern.compile("public (int|long|double|boolean) (\\w+)\\(([^)]*)\\);").matcher(face);
        while (m.find()) {
            want.add(m.group(1) + " " + m.group(2) + "(" + m.group(3).replaceAll(" \\w+(,|$)", "$1") + ")");
        }
        must(want.size() == 49, "the document has 49 methods");
        TreeSet<String> got = new TreeSet<>();
        TreeSet<String> names = new TreeSet<>();
        TreeSet<String> hidden = new TreeSet<>();
        for (Method method : OpticalHouse.class.getDeclaredMethods()) {
            if (Modifier.isPrivate(method.getModifiers())) {
                hidden.add(method.getName());
                continue;
            }
            List<String> types = new ArrayList<>();
            for (Class<?> type : method.getParameterTypes()) {
                types.add(type.getName());
            }
            got.add(method.getReturnType().getName() + " " + method.getName() + "(" + String.join(", ", types) + ")");
            names.add(method.getName());
            must(Modifier.isPublic(method.getModifiers()) && !Modifier.isStatic(method.getModifiers()), method + " is public");
        }
        must(got.equals(want), "the methods are those of the document: " + got + " and " + want);
        must(Modifier.isFinal(OpticalHouse.class.getModifiers()), "the class is final");
        Constructor<?>[] makers = OpticalHouse.class.getDeclaredConstructors();
        must(makers.length == 1 && Modifier.isPublic(makers[0].getModifiers()) && makers[0].getParameterCount() == 0, "one constructor");
        int constants = 0;
        for (Field field : OpticalHouse.class.getDeclaredFields()) {
            if (!Modifier.isPrivate(field.getModifiers())) {
                constants++;
                must(List.of("NONE", "BAD", "NO", "FULL").contains(field.getName()), field + " is of the document");
            }
            must(!Modifier.isStatic(field.getModifiers()) || Modifier.isFinal(field.getModifiers()), field + " is final");
        }
        must(constants == 4, "four constants");
        must(OpticalHouse.NONE == -1 && OpticalHouse.BAD == -2 && OpticalHouse.NO == -3 && OpticalHouse.FULL == -4, "constants");
        Class<?>[] inside = OpticalHouse.class.getDeclaredClasses();
        must(inside.length <= 12, "at most twelve classes");
        for (Class<?> c : inside) {
            must(Modifier.isStatic(c.getModifiers()) && !Modifier.isPublic(c.getModifiers()), c + " is static and not public");
            for (Method method : c.getDeclaredMethods()) {
                must(!names.contains(method.getName()), method + " has a name of its own");
                must(method.getParameterCount() <= 7, method + " has at most seven parameters");
            }
            int fields = 0;
            for (Field field : c.getDeclaredFields()) {
                fields += Modifier.isStatic(field.getModifiers()) ? 0 : 1;
                must(!Modifier.isStatic(field.getModifiers()) || Modifier.isFinal(field.getModifiers()), field + " is final");
            }
            must(fields <= 20, c + " has at most twenty fields");
        }
        hidden.retainAll(names);
        must(hidden.isEmpty(), "private methods have names of their own: " + hidden);
        source();
        System.out.println(wrong == 0 ? "the face is the document's" : wrong + " things are not so");
        System.exit(wrong > 0 ? 1 : 0);
    }

    private static void source() throws Exception {
        String text = Files.readString(Path.of("src", "main", "java", "OpticalHouse.java"));
        String code = text.replaceAll("(?s)/\\*.*?\\*/", "").replaceAll("//[^\n]*", "");
        for (String word : List.of("throw", "try", "catch", "finally", "synchronized", "assert", "instanceof", "package",
                "hashCode", "toString", "System\\.(?!arraycopy)", "Double", "Float", "Math\\.(?!floorDiv)", "Exact", "->", "::")) {
            String edge = Character.isLetter(word.charAt(0)) ? "\\b" : "";
            must(!Pattern.compile(edge + word).matcher(code).find(), "no " + word + " in the source");
        }
        Matcher m = Pattern.compile("import ([^;]*);").matcher(code);
        while (m.find()) {
            must(m.group(1).equals("java.util.Arrays"), "no import of " + m.group(1));
        }
        for (int i = 0; i < text.length(); i++) {
            must(text.charAt(i) < 256, "characters 0 to 255 alone");
        }
        String[] lines = text.split("\n");
        for (String indent : List.of("    ", "        ")) {
            int start = -1;
            for (int i = 0; i < lines.length; i++) {
                if (lines[i].matches(indent + "\\w.*\\) \\{")) {
                    start = i;
                } else if (lines[i].equals(indent + "}") && start >= 0) {
                    must(i - start < 60, "the method at line " + (start + 1) + " is short");
                    start = -1;
                }
            }
        }
    }
}
