import java.lang.reflect.Field;
import java.lang.reflect.Method;
import java.lang.reflect.Modifier;
import java.nio.file.Files;
import java.nio.file.Path;
import java.util.Set;
import java.util.TreeSet;
import java.util.regex.Matcher;
import java.util.regex.Pattern;

/** The public face, and rules of LANGUAGE.md that can be read off the classes and the source. */
public final class FaceTest {
    private static final String[] FACE = {
        "int caster(boolean)", "int stalks(int,int,boolean)", "int thumb(int,int,boolean,int,int)",
        "int told(int,int)", "int mark(int,int)", "int part(int,int,int)", "int line(int,int,int,int)",
        "int odds(int,int)", "int mean(int)", "int drawn(int,long)", "int set(int,int,int)", "int get(int,int)",
        "int draw(int,int,long)", "int number(int)", "int act(int,int,int)", "int way(int,int,int)",
        "int step(int)", "int row(int,int)", "int lay(int,int,int)", "int tear(int)",
        "int copy(int,int,int,int,int)", "int misfits(int,int)", "int follows(int)", "int lacks(int)",
        "int swapped(int,int)", "int record(int,int,long,int)", "int off(int,int)", "int nearest(int)",
        "int lost(int,int)", "int need(int,int)", "long asked()", "long upper()", "long lower()",
        "int count(int)", "int finding()", "int findings(int)", "long digest()",
    };

    public static void main(String[] args) throws Exception {
        face();
        insides();
        source();
        Due.end();
    }

    private static void hold(String what, boolean holds) {
        Due.due(what, holds ? 1 : 0, 1);
    }

    private static String sign(Method m) {
        StringBuilder types = new StringBuilder();
        for (Class<?> type : m.getParameterTypes()) {
            types.append(types.length() == 0 ? "" : ",").append(type.getSimpleName());
        }
        return m.getReturnType().getSimpleName() + " " + m.getName() + "(" + types + ")";
    }

    private static void face() throws Exception {
        int of = StalkRoom.class.getModifiers();
        hold("the class is public and final", Modifier.isPublic(of) && Modifier.isFinal(of));
        Set<String> due = new TreeSet<>(Set.of(FACE));
        Set<String> publicNames = new TreeSet<>();
        Set<String> got = new TreeSet<>();
        for (Method m : StalkRoom.class.getDeclaredMethods()) {
            if (!Modifier.isPrivate(m.getModifiers())) {
                got.add(sign(m));
                publicNames.add(m.getName());
                hold(m.getName() + " is public", Modifier.isPublic(m.getModifiers()));
            }
        }
        hold("the methods are the document's, not " + got, got.equals(due));
        for (Method m : StalkRoom.class.getDeclaredMethods()) {
            hold("no private method is named " + m.getName(),
                !Modifier.isPrivate(m.getModifiers()) || !publicNames.contains(m.getName()));
        }
        hold("one constructor, public", StalkRoom.class.getConstructors().length == 1
            && StalkRoom.class.getDeclaredConstructors().length == 1);
        Due.due("BAD", StalkRoom.BAD, -1);
        Due.due("FULL", StalkRoom.FULL, -2);
        Due.due("FINDING", StalkRoom.FINDING, -3);
        Due.due("STATE", StalkRoom.STATE, -4);
        Due.due("NONE", StalkRoom.NONE, -9);
        Due.due("public fields", StalkRoom.class.getFields().length, 5);
    }

    private static void insides() {
        Class<?>[] inside = StalkRoom.class.getDeclaredClasses();
        hold("some twelve classes", inside.length + 1 <= 12);
        for (Class<?> c : inside) {
            hold(c + " is static", Modifier.isStatic(c.getModifiers()));
            hold(c + " is not public", !Modifier.isPublic(c.getModifiers()) && !Modifier.isProtected(c.getModifiers()));
            fields(c);
        }
        fields(StalkRoom.class);
    }

    private static void fields(Class<?> c) {
        int own = 0;
        for (Field f : c.getDeclaredFields()) {
            boolean constant = Modifier.isStatic(f.getModifiers());
            hold(c + " " + f.getName() + " is final, if static", !constant || Modifier.isFinal(f.getModifiers()));
            own += constant ? 0 : 1;
        }
        hold(c + " has some twenty fields", own <= 20);
    }

    private static void source() throws Exception {
        String text = Files.readString(Path.of("src/main/java/StalkRoom.java"));
        String code = text.replaceAll("(?s)/\\*.*?\\*/", "").replaceAll("//[^\n]*", "");
        String[] words = {"throw", "throws", "try", "catch", "synchronized", "assert", "package", "Object", "System.out",
            "Random", "Thread", "hashCode", "toString", "equals", "Exact", "->", "::", "static {", "@"};
        for (String word : words) {
            String at = Character.isLetter(word.charAt(0)) ? "\\b" + Pattern.quote(word) : Pattern.quote(word);
            hold("no " + word, !Pattern.compile(at).matcher(code).find());
        }
        Matcher imports = Pattern.compile("import ([^;]*);").matcher(code);
        while (imports.find()) {
            hold("import " + imports.group(1), imports.group(1).equals("java.util.Arrays"));
        }
        Matcher calls = Pattern.compile("\\b(Arrays|Math|Long|Integer|System)\\.(\\w+)(\\(?)").matcher(code);
        Set<String> let = Set.of("Arrays.fill(", "Math.abs(", "Long.bitCount(", "System.arraycopy(");
        while (calls.find()) {
            String call = calls.group(1) + "." + calls.group(2) + calls.group(3);
            hold("library: " + call, let.contains(call));
        }
    }
}
