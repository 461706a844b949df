import java.io.IOException;
import java.nio.file.Files;
import java.nio.file.Path;
import java.util.regex.Pattern;

/** "The public face", the heads of the promises, and what the interface says ahead of the calls, word by word. */
public final class FaceSentences {
    private static final String FACE = "The public face";
    private static final Path PROGRAM = Path.of("src", "main", "java", "GlulxHeads.java");

    /** In the document's order; the first is of promise 2, the last of promise 21. */
    private static final String[] CALLS = {
        "int feed(int a, int b, int c, int d, int e)", "int fill(int n, int seed)", "int word(int at, int v)",
        "int cut(int n)", "int verdict()", "long sum()", "int load()", "long told(int what)",
        "long read(int width, int at)", "int write(int width, int at, int v)", "int resize(int n)", "int block(int n)",
        "int free(int at)", "int protect(int at, int n)", "int restart()", "int save()", "int restore()",
        "int changed(int page)", "int hash(int at, int n)", "int cell(int at) throws IndexOutOfBoundsException"
    };

    private FaceSentences() {
    }

    public static void run() {
        String program = program();
        members(program);
        calls(program);
        headings(program);
    }

    private static String program() {
        try {
            return Files.readString(PROGRAM);
        } catch (IOException e) {
            return "";
        }
    }

    private static void members(String program) {
        Due.sentence(FACE, "public final class GlulxHeads {");
        stands(program, "\npublic final class GlulxHeads {\n");
        Due.sentence(FACE, "public static final long NOTHING = Long.MIN_VALUE;");
        stands(program, "\n    public static final long NOTHING = Long.MIN_VALUE;\n");
        Due.is("its number", GlulxHeads.NOTHING, -9223372036854775808L);
        Due.sentence(FACE, "public GlulxHeads();");
        stands(program, "\n    public GlulxHeads() {\n");
        Due.sentence("Promise 1", "`GlulxHeads()`:");
        Due.nothing("one that is new", new GlulxHeads().sum());
    }

    private static void calls(String program) {
        for (int i = 0; i < CALLS.length; i++) {
            Due.sentence(FACE, "public " + CALLS[i] + ";");
            stands(program, head(i));
            Due.sentence("Promise " + (i + 2), "`" + CALLS[i] + "`:");
            stands(program, head(i));
        }
        Due.sentence(FACE, CALLS[CALLS.length - 1] + "; }");
        Due.is("no call more", program.split("\n    public ", -1).length - 1, CALLS.length + 2);
    }

    private static String head(int call) {
        return "\n    public " + CALLS[call] + " {\n";
    }

    private static void headings(String program) {
        Due.sentence("Terms", "Ahead of the calls " + names(0, 7) + " the interface says: ---- the file.");
        comesAhead(program, "\n    // ---- the file\n", 0, 7);
        Due.sentence("Terms", "Ahead of the calls " + names(7, 20) + " the interface says: ---- memory.");
        comesAhead(program, "\n    // ---- memory\n", 7, 20);
    }

    private static String names(int from, int to) {
        StringBuilder names = new StringBuilder();
        for (int i = from; i < to; i++) {
            String name = CALLS[i].substring(CALLS[i].indexOf(' ') + 1, CALLS[i].indexOf('('));
            names.append(i == from ? "`" : ", `").append(name).append('`');
        }
        return names.toString();
    }

    // Ahead of the first of them, behind the last of those that are not its own, and all in the document's order.
    private static void comesAhead(String program, String heading, int from, int to) {
        stands(program, heading);
        int last = from == 0 ? 0 : program.indexOf(head(from - 1));
        Due.is("it stands behind the others", program.indexOf(heading) > last ? 1 : 0, 1);
        last = program.indexOf(heading);
        for (int i = from; i < to; i++) {
            int at = program.indexOf(head(i));
            Due.is(CALLS[i] + " comes in its order", at > last ? 1 : 0, 1);
            last = at;
        }
    }

    private static void stands(String program, String words) {
        int times = program.split(Pattern.quote(words), -1).length - 1;
        Due.is("how often the program has \"" + words.trim() + "\"", times, 1);
    }
}
