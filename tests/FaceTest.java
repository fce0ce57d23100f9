import java.lang.reflect.Executable;
import java.lang.reflect.Field;
import java.lang.reflect.Member;
import java.lang.reflect.Method;
import java.lang.reflect.Modifier;
import java.nio.file.Files;
import java.nio.file.Path;
import java.util.List;
import java.util.Set;
import java.util.TreeSet;

/** The public face is the document's, and the class keeps to what LANGUAGE.md lets be seen by a machine. */
final class FaceTest {
    private static final Due DUE = new Due();
    private static final String FACE = "feed 5,end 1,dinner 0,rule 0,force 1,dish 2,guest 2,clashes 1,throat 1,minute 0,offer 1,serve 1,"
        + "fetch 1,tell 2,undo 0,ahead 3,said 1,quiet 0,knowing 1,bestRow 2,hush 2,rows 1,believed 1,dropped 1,leftOut 2,rests 4,"
        + "crumbs 2,loudest 2,note 4,ruled 1,look 2,seed 1,hiccups 4,count 1,image 1,back 1";
    private static final List<String> FORBIDDEN = List.of("throw", "throws", "try", "catch", "finally", "synchronized", "assert",
        "var", "import", "package", "double", "float", "Object", "hashCode", "new ArrayList", "->", "::", "@");

    public static void main(String[] args) throws Exception {
        face();
        Class<?>[] inside = SpokenBite.class.getDeclaredClasses();
        DUE.due("at most twelve classes", inside.length + 1 <= 12 ? 1 : 0, 1);
        members(SpokenBite.class);
        for (Class<?> c : inside) {
            DUE.due(c + " is static and not public", Modifier.isStatic(c.getModifiers())
                && !Modifier.isPublic(c.getModifiers()) && !Modifier.isProtected(c.getModifiers()) ? 1 : 0, 1);
            members(c);
        }
        source(Files.readAllLines(Path.of("src/main/java/SpokenBite.java")));
        DUE.close();
    }

    private static void face() throws Exception {
        Set<String> due = new TreeSet<>(List.of(FACE.split(",")));
        Set<String> seen = new TreeSet<>();
        for (Method m : SpokenBite.class.getDeclaredMethods()) {
            if (!Modifier.isPrivate(m.getModifiers()) && !m.isSynthetic()) {
                seen.add(m.getName() + " " + m.getParameterCount());
                DUE.due(m + " is public and answers an int", Modifier.isPublic(m.getModifiers())
                    && !Modifier.isStatic(m.getModifiers()) && m.getReturnType() == int.class ? 1 : 0, 1);
                for (Class<?> p : m.getParameterTypes()) {
                    DUE.due(m + " takes ints", p == int.class ? 1 : 0, 1);
                }
            }
        }
        DUE.due("the methods are " + seen, seen.equals(due) ? 1 : 0, 1);
        DUE.due("one public constructor", SpokenBite.class.getConstructors().length, 1);
        DUE.due("one constructor", SpokenBite.class.getDeclaredConstructors().length, 1);
        DUE.due("public and final", SpokenBite.class.getModifiers(), Modifier.PUBLIC | Modifier.FINAL);
        for (Field f : SpokenBite.class.getDeclaredFields()) {
            boolean none = f.getName().equals("NONE") && Modifier.isPublic(f.getModifiers());
            DUE.due(f + " is private or NONE", none || Modifier.isPrivate(f.getModifiers()) ? 1 : 0, 1);
        }
    }

    private static void members(Class<?> c) {
        int fields = 0;
        for (Field f : c.getDeclaredFields()) {
            boolean fixed = Modifier.isStatic(f.getModifiers());
            fields += fixed ? 0 : 1;
            DUE.due(f + " is final if it is static", !fixed || Modifier.isFinal(f.getModifiers()) ? 1 : 0, 1);
        }
        DUE.due(c + " has at most twenty fields", fields <= 20 ? 1 : 0, 1);
        for (Executable m : c.getDeclaredMethods()) {
            DUE.due(m + " has at most seven parameters", m.getParameterCount() <= 7 ? 1 : 0, 1);
            boolean ofTheFace = c == SpokenBite.class && Modifier.isPublic(((Member) m).getModifiers());
            DUE.due(m + " bears no public name", ofTheFace || !FACE.matches("(.*,)?" + m.getName() + " .*") ? 1 : 0, 1);
        }
    }

    private static void source(List<String> lines) {
        int from = 0;
        for (int i = 0; i < lines.size(); i++) {
            String code = lines.get(i).replaceAll("\"[^\"]*\"|'.'", "").replaceAll("//.*|/\\*\\*.*", "");
            for (String word : FORBIDDEN) {
                boolean letters = Character.isLetter(word.charAt(0));
                boolean there = letters ? code.matches(".*\\b" + word + "\\b.*") : code.contains(word);
                DUE.due("line " + (i + 1) + " has " + word, there ? 1 : 0, 0);
            }
            if (code.matches(" {4}(?: {4})?\\S.*\\(.*\\) \\{")) {
                from = i;
            } else if (code.matches(" {4}(?: {4})?\\}")) {
                DUE.due("the method at line " + (from + 1) + " is short", i - from <= 60 || code.length() == 5 ? 1 : 0, 1);
            }
        }
    }
}
