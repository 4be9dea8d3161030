import java.io.IOException;
import java.lang.reflect.Field;
import java.lang.reflect.Member;
import java.lang.reflect.Method;
import java.lang.reflect.Modifier;
import java.nio.file.Files;
import java.nio.file.Path;
import java.util.Set;
import java.util.TreeSet;
import java.util.regex.Matcher;
import java.util.regex.Pattern;

/** The public face as the document tells it, and those rules of LANGUAGE.md that a text shows. */
final class FaceTest {
    private static final String[] FACE = {
        "feed(int)", "beach()", "fault()", "told(int)", "depth(int,int)", "hut(int,int)", "legal(int,int)",
        "hour(int)", "bring(int,int)", "drawTo(int,int)", "settle(int)", "drift(int)", "undo()",
        "open(int)", "plan(int,int)", "dry(int)", "stays(int,int)", "spot(int)", "soonest(int,int)",
        "offer(int,int,int,int)", "calm(int,int)", "shout(int,boolean)", "bears()", "listen()", "write(int,int)",
        "tear()", "judge()", "seed(int)", "keep(int)", "goBack(int)"};
    private static final String SOURCE = "src/main/java/BathingCourt.java";
    private static final String[] FORBIDDEN = {"throw", "throws", "try", "catch", "synchronized", "assert", "static {",
        "->", "::", "protected", "hashCode", "toString", "Exact", "package"};

    public static void main(String[] args) throws IOException {
        constants();
        methods();
        members(BathingCourt.class.getDeclaredFields());
        members(BathingCourt.class.getDeclaredMethods());
        namesInside();
        shapes(BathingCourt.class);
        for (Class<?> inside : BathingCourt.class.getDeclaredClasses()) {
            shapes(inside);
        }
        words();
        lengths();
        Check.finish();
    }

    private static void constants() {
        Check.due("NONE", BathingCourt.NONE, -1);
        Check.due("UNKNOWN", BathingCourt.UNKNOWN, -1000000001);
        Check.due("OUTSIDE", BathingCourt.OUTSIDE, -1000000002);
        Check.due("NOT", BathingCourt.NOT, -1000000003);
        Check.due("FULL", BathingCourt.FULL, -1000000004);
        Check.due("public fields", BathingCourt.class.getFields().length, 5);
        Check.due("public constructors", BathingCourt.class.getConstructors().length, 1);
        Check.due("final", Modifier.isFinal(BathingCourt.class.getModifiers()) ? 1 : 0, 1);
    }

    private static void methods() {
        Set<String> got = new TreeSet<>();
        for (Method m : BathingCourt.class.getDeclaredMethods()) {
            if (Modifier.isPublic(m.getModifiers())) {
                StringBuilder name = new StringBuilder(m.getName()).append('(');
                for (Class<?> type : m.getParameterTypes()) {
                    name.append(name.charAt(name.length() - 1) == '(' ? "" : ",").append(type.getName());
                }
                got.add(name.append(')').toString());
                Check.due("type of " + name, m.getReturnType().getName(), "int");
            }
        }
        Check.due("the face", got.toString(), new TreeSet<>(Set.of(FACE)).toString());
    }

    private static void members(Member[] members) {
        for (Member member : members) {
            int kind = member.getModifiers() & (Modifier.PUBLIC | Modifier.PRIVATE);
            Check.due("public or private: " + member.getName(), kind == 0 ? 0 : 1, 1);
        }
    }

    private static void namesInside() {
        Set<String> face = new TreeSet<>();
        for (String call : FACE) {
            face.add(call.substring(0, call.indexOf('(')));
        }
        Check.due("at most twelve classes", BathingCourt.class.getDeclaredClasses().length <= 11 ? 1 : 0, 1);
        for (Class<?> inside : BathingCourt.class.getDeclaredClasses()) {
            Check.due("static: " + inside, Modifier.isStatic(inside.getModifiers()) ? 1 : 0, 1);
            for (Method m : inside.getDeclaredMethods()) {
                Check.due("a name of the face: " + m, face.contains(m.getName()) ? 1 : 0, 0);
            }
        }
    }

    /** Rules 3, 5 and 11: static fields are constants, arrays have one dimension, what is counted stays small. */
    private static void shapes(Class<?> type) {
        int fields = 0;
        for (Field field : type.getDeclaredFields()) {
            boolean isStatic = Modifier.isStatic(field.getModifiers());
            fields += isStatic ? 0 : 1;
            if (isStatic) {
                Check.due("final: " + field, Modifier.isFinal(field.getModifiers()) ? 1 : 0, 1);
                Check.due("int or long: " + field, Set.of(int.class, long.class).contains(field.getType()) ? 1 : 0, 1);
            }
            Class<?> element = field.getType().getComponentType();
            Check.due("one dimension: " + field, element == null || element.isPrimitive() ? 1 : 0, 1);
        }
        Check.due("some twenty fields at most: " + type, fields <= 20 ? 1 : 0, 1);
        for (Method m : type.getDeclaredMethods()) {
            Check.due("at most seven parameters: " + m, m.getParameterCount() <= 7 ? 1 : 0, 1);
        }
    }

    /** Rule 11: "Methods stay short (some sixty lines)". */
    private static void lengths() throws IOException {
        String[] lines = Files.readString(Path.of(SOURCE)).split("\n");
        Pattern begin = Pattern.compile("^( {4}| {8})(?! |new |return |if |for |while |switch )[\\w<>\\[\\] ]+\\(.*\\) \\{$");
        int found = 0;
        for (int i = 0; i < lines.length; i++) {
            Matcher m = begin.matcher(lines[i]);
            if (m.matches()) {
                found++;
                int end = i;
                while (end < lines.length && !lines[end].equals(m.group(1) + "}")) {
                    end++;
                }
                Check.due("some sixty lines: " + lines[i].trim(), end - i < 60 ? 1 : 0, 1);
            }
        }
        Check.due("methods were found", found > 60 ? 1 : 0, 1);
    }

    private static void words() throws IOException {
        String code = Files.readString(Path.of(SOURCE)).replaceAll("(?s)/\\*.*?\\*/", "").replaceAll("//[^\n]*", "");
        for (String word : FORBIDDEN) {
            String edge = Character.isLetter(word.charAt(0)) ? "\\b" : "";
            Matcher found = Pattern.compile(edge + Pattern.quote(word)).matcher(code);
            Check.due("'" + word + "' in the class", found.find() ? 1 : 0, 0);
        }
        Matcher imports = Pattern.compile("import ([^;]*);").matcher(code);
        while (imports.find()) {
            Check.due("an import", imports.group(1), "java.util.Arrays");
        }
    }
}
