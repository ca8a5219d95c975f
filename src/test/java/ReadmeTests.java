import java.lang.reflect.Method;
import java.lang.reflect.Modifier;
import java.nio.file.Files;
import java.nio.file.Path;

/** README.md: its lines of use have the answers that they tell, and it tells of every call. */
public final class ReadmeTests {
    private static int wrong = 0;

    private static void due(String what, long got, long want) {
        if (got != want) say(what + " is " + got + ", due is " + want);
    }

    private static void say(String text) {
        wrong++;
        System.out.println(text);
    }

    /** The lines of README.md, without their comments; sameLines looks whether they are all here. */
    private static void use() {
        BoardMoves board = new BoardMoves(100, 60, 7);
        int a = board.part(4, 2, 0);
        int b = board.part(3, 3, 0);
        board.put(a, 0, 0, 0);
        board.put(b, 40, 20, 1);
        int n = board.net();
        board.pin(n, a, 4, 2);
        board.pin(n, b, 0, 0);
        long first = board.wire();
        int others = board.push(a, 38, 20);
        long x = board.at(b, 0);
        boolean again = board.put(a, 40, 20, 0);
        long pushed = board.wire();
        int kept = board.run(500);
        long less = board.wire();
        due("first", first, 57);
        due("others", others, 1);
        due("x", x, 42);
        due("again", again ? 1 : 0, 0);
        if (kept < 1 || kept > 500) say("kept is " + kept);
        if (less > pushed) say("less is " + less + ", before it was " + pushed);
    }

    private static void sameLines(String readme) throws Exception {
        String here = Files.readString(Path.of("src/test/java/ReadmeTests.java"));
        String[] blocks = readme.split("```");
        if (blocks.length != 3 || !blocks[1].startsWith("java\n")) {
            say("README.md has not just one block of Java");
            return;
        }
        for (String line : blocks[1].substring(5).split("\n")) {
            String code = line.replaceAll("//.*", "").trim();
            if (!here.contains("        " + code + "\n")) say("not tested: " + code);
        }
    }

    private static void everyCall(String readme) {
        for (Method m : BoardMoves.class.getDeclaredMethods()) {
            if (Modifier.isPublic(m.getModifiers()) && !readme.contains("`" + m.getName() + "(")) say("not told of: " + m.getName());
        }
    }

    public static void main(String[] args) throws Exception {
        String readme = Files.readString(Path.of("README.md"));
        use();
        sameLines(readme);
        everyCall(readme);
        System.out.println(wrong == 0 ? "README.md is as due" : wrong + " things are not as due");
        if (wrong != 0) System.exit(1);
    }
}
