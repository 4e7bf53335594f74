import java.lang.reflect.Field;
import java.lang.reflect.Method;
import java.lang.reflect.Modifier;
import java.nio.file.Files;
import java.nio.file.Path;
import java.util.Arrays;
import java.util.Set;
import java.util.TreeSet;
import java.util.regex.Matcher;
import java.util.regex.Pattern;

/** The public face is the document's, no call throws whatever it is asked, and the source keeps to what LANGUAGE.md lets it use. */
public final class FaceTest {
    private static final Check CHECK = new Check();
    private static final String FACE = "int feed(int,int,int,int,int) int square(int) int fault(int) int statue(int,int) "
            + "int stone(int) long look(int) long under() int watchers(int) int towards(int) int nights(int) "
            + "int letter(int,int) int peace(int) int down(int) int up(int,int) int undo(int) int judge(int,int) "
            + "int perform(int) int month(int,int) int still() int later(int,int,int) int facing(int) int pair() int rings() "
            + "int ringOf(int) int calm() int way(int,int) long reach(int,int) long ways(int,int,int) int step(int,int,int) "
            + "int freeIn(int) int takeDown(int,int) int reconcile(int,int) long blocks(int) int frees(int,int,int) "
            + "int seen(int,int) int writer(int,int,int) int turners(int) int numbers(int,int,int) long write(int,int,long) "
            + "int copy(int) int image(int) int restore(int) int count(int)";

    private static void face() {
        Set<String> got = new TreeSet<>();
        Set<String> hidden = new TreeSet<>();
        for (Method m : TurnedStatues.class.getDeclaredMethods()) {
            String types = String.join(",", Arrays.stream(m.getParameterTypes()).map(Class::getName).toList());
            if (Modifier.isPublic(m.getModifiers())) {
                got.add(m.getReturnType() + " " + m.getName() + "(" + types + ")");
            } else {
                CHECK.due(m.getName() + " is private", Modifier.isPrivate(m.getModifiers()) ? 1 : 0, 1);
                hidden.add(m.getName());
            }
        }
        Set<String> want = new TreeSet<>(Arrays.asList(FACE.split("(?<=\\)) ")));
        CHECK.due("the face " + got, got.equals(want) ? 1 : 0, 1);
        for (String one : want) {
            CHECK.due("hidden too: " + one, hidden.contains(one.replaceAll(".* |\\(.*", "")) ? 1 : 0, 0);
        }
        for (Field f : TurnedStatues.class.getDeclaredFields()) {
            CHECK.due(f.getName(), Modifier.isPrivate(f.getModifiers()) || f.getName().equals("NONE") ? 1 : 0, 1);
        }
        CHECK.due("final", Modifier.isFinal(TurnedStatues.class.getModifiers()) ? 1 : 0, 1);
    }

    private static void wild() throws Exception {
        int[] wild = {0, 1, -1, 7, 8, 40, 63, 64, 99, 200, 1000, Integer.MAX_VALUE, Integer.MIN_VALUE};
        String full = "stones 8 8;statue 0 0 looks 3;statue 7 7 looks 7 at 0;wall 3 4;snow 1 for 2;rest : off = 2;";
        for (int seed = 0; seed < 150; seed++) {
            TurnedStatues x = seed % 3 == 0 ? new TurnedStatues() : Check.told(seed % 3 == 1 ? full : "stones 2 2;");
            int turn = seed;
            for (Method m : TurnedStatues.class.getDeclaredMethods()) {
                Object[] args = new Object[m.getParameterCount()];
                for (int i = 0; i < args.length; i++) {
                    turn = turn * 31 + 7;
                    int value = wild[Math.floorMod(turn, wild.length)];
                    args[i] = m.getParameterTypes()[i] == long.class ? (Object) (value * 4294967297L) : (Object) value;
                }
                if (Modifier.isPublic(m.getModifiers())) {
                    m.invoke(x, args);
                }
            }
        }
    }

    private static void source() throws Exception {
        String all = Files.readString(Path.of("src/main/java/TurnedStatues.java"));
        String code = all.replaceAll("(?s)/\\*.*?\\*/", "").replaceAll("//[^\n]*", "").replaceAll("\"[^\"]*\"", "TEXT");
        String[] never = {"\\b(throw|throws|try|catch|synchronized|assert|import|package|instanceof|yield|var)\\b", "->", "::",
            "\\b(System\\.(?!arraycopy)|Thread|Exact\\()", "TEXT\\s*\\+", "\\+\\s*TEXT", "\\.(equals|hashCode|toString)\\(",
            "new [A-Z]\\w*\\([^)]", "\\bstatic (?!final|int |long |boolean |void )", "\\bprotected\\b", "\\bwhile\\b"};
        for (String pattern : never) {
            Matcher m = Pattern.compile(pattern).matcher(code);
            CHECK.due(pattern + (m.find() ? " is in the source: " + m.group() : ""), m.reset().find() ? 1 : 0, 0);
        }
        int classes = code.split("\\bclass \\w+ \\{").length - 1;
        CHECK.due(classes + " classes are some twelve", classes <= 12 ? 1 : 0, 1);
        int length = 0;
        String head = "";
        for (String line : all.split("\n")) {
            length++;
            if (line.matches("    (    )?(public|private|static|final|boolean|int|long|void|[A-Z])[^=;]*\\) \\{")) {
                head = line.trim();
                length = 1;
            } else if (line.matches("    (    )?\\}")) {
                CHECK.due(head + " has " + length + " lines", length <= 60 ? 1 : 0, 1);
            }
        }
    }

    public static void main(String[] args) throws Exception {
        face();
        wild();
        source();
        CHECK.end();
    }
}
