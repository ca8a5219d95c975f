import java.lang.reflect.Constructor;
import java.lang.reflect.Field;
import java.lang.reflect.Method;
import java.lang.reflect.Modifier;
import java.nio.file.Files;
import java.nio.file.Path;
import java.util.ArrayList;
import java.util.Arrays;
import java.util.List;
import java.util.Set;
import java.util.TreeSet;

/** The public face as the document writes it, and words that LANGUAGE.md leaves out of the source. */
public final class FaceTests {
    private static final String[] FACE = {
        "public static final int BoardMoves.NONE",
        "public BoardMoves(long,long,long)",
        "public int BoardMoves.part(long,long,int) throws java.lang.IllegalArgumentException",
        "public boolean BoardMoves.put(int,long,long,int) throws java.lang.IndexOutOfBoundsException,java.lang.IllegalArgumentException",
        "public boolean BoardMoves.lock(int,boolean) throws java.lang.IndexOutOfBoundsException",
        "public int BoardMoves.net()",
        "public boolean BoardMoves.pin(int,int,long,long) throws java.lang.IndexOutOfBoundsException,java.lang.IllegalArgumentException",
        "public int BoardMoves.push(int,long,long) throws java.lang.IndexOutOfBoundsException,java.lang.IllegalStateException",
        "public long BoardMoves.at(int,int) throws java.lang.IndexOutOfBoundsException",
        "public int BoardMoves.run(long) throws java.lang.IllegalArgumentException",
        "public long BoardMoves.wire()",
        "public long BoardMoves.full()",
        "public boolean BoardMoves.near(int,int,long) throws java.lang.IndexOutOfBoundsException,java.lang.IllegalArgumentException",
        "public int BoardMoves.group(int,int) throws java.lang.IndexOutOfBoundsException",
        "public boolean BoardMoves.height(int,long) throws java.lang.IndexOutOfBoundsException,java.lang.IllegalArgumentException",
        "public boolean BoardMoves.keepOut(long,long,long,long,long) throws java.lang.IllegalArgumentException",
        "public boolean BoardMoves.clear2()",
        "public int BoardMoves.side(int) throws java.lang.IndexOutOfBoundsException",
    };
    private static final String[] LEFT_OUT = {
        "import ", "package ", "catch", "try", "finally", "synchronized", "assert ", "->", "::", "Exact(",
        "System.", "Thread", "Random", "double", "float", "Object", "String", "instanceof",
    };
    private static int wrong = 0;

    private static void say(String text) {
        wrong++;
        System.out.println(text);
    }

    private static void face() {
        Set<String> members = new TreeSet<>();
        for (Field f : BoardMoves.class.getDeclaredFields()) if (!Modifier.isPrivate(f.getModifiers())) members.add(f.toString());
        for (Constructor<?> c : BoardMoves.class.getDeclaredConstructors()) if (!Modifier.isPrivate(c.getModifiers())) members.add(c.toString());
        for (Method m : BoardMoves.class.getDeclaredMethods()) if (!Modifier.isPrivate(m.getModifiers())) members.add(m.toString());
        Set<String> due = new TreeSet<>(Arrays.asList(FACE));
        for (String member : members) if (!due.contains(member)) say("not of the face: " + member);
        for (String member : due) if (!members.contains(member)) say("not there: " + member);
        if (!Modifier.isFinal(BoardMoves.class.getModifiers())) say("the class is not final");
    }

    private static List<Class<?>> all() {
        List<Class<?>> classes = new ArrayList<>(Arrays.asList(BoardMoves.class.getDeclaredClasses()));
        classes.add(BoardMoves.class);
        return classes;
    }

    private static void members() {
        Set<String> face = new TreeSet<>();
        for (Method m : BoardMoves.class.getDeclaredMethods()) if (Modifier.isPublic(m.getModifiers())) face.add(m.getName());
        for (Class<?> c : all()) {
            boolean outer = c == BoardMoves.class;
            if (!outer && !Modifier.isStatic(c.getModifiers())) say("not static: " + c);
            for (Method m : c.getDeclaredMethods()) {
                if (m.getParameterCount() > 7) say("more than seven parameters: " + m);
                if (!(outer && Modifier.isPublic(m.getModifiers())) && face.contains(m.getName())) say("a name of the face: " + m);
            }
            int fields = 0;
            for (Field f : c.getDeclaredFields()) {
                if (!Modifier.isStatic(f.getModifiers())) fields++;
                else if (!Modifier.isFinal(f.getModifiers())) say("static, not final: " + f);
            }
            if (fields > 20) say("more than twenty fields: " + c);
        }
        if (all().size() > 12) say("more than twelve classes");
    }

    private static void source() throws Exception {
        String text = Files.readString(Path.of("src/main/java/BoardMoves.java"));
        String code = text.replaceAll("(?s)/\\*.*?\\*/", "").replaceAll("//[^\n]*", "").replaceAll("\"[^\"]*\"", "");
        for (String word : LEFT_OUT) if (code.contains(word)) say("in the source: " + word);
        for (char c : text.toCharArray()) if (c > 255) say("a character above 255");
    }

    public static void main(String[] args) throws Exception {
        face();
        members();
        source();
        System.out.println(wrong == 0 ? "the face is as due" : wrong + " things are not as due");
        if (wrong != 0) System.exit(1);
    }
}
