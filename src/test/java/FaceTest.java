import java.io.IOException;
import java.lang.reflect.Constructor;
import java.lang.reflect.Field;
import java.lang.reflect.Method;
import java.lang.reflect.Modifier;
import java.nio.file.Files;
import java.nio.file.Path;
import java.util.Set;
import java.util.TreeSet;
import java.util.regex.Matcher;
import java.util.regex.Pattern;

/** The public face, and those rules of LANGUAGE.md that can be seen from outside or in the text. */
public final class FaceTest {
    private static final String[] METHODS = {
        "int feed(int, int, int, int, int)", "int cut(int)", "int turn(int, int)", "long hash(boolean, int)",
        "long part(long, int, int)", "long address(long)", "int begin()", "int input(long, int, long)",
        "int spend(int, int, long)", "int output(long, long)", "int pay(long, long)", "int sign(int)",
        "int take(int, int)", "int assemble(int, long, int)", "int root()", "int solve(long, int)",
        "int judge(int, int)", "int give(int, int)", "int post(int, int, int)", "int link(int, int, int)",
        "int tick(int)", "int message(int, int)", "int messageByte(int, int)", "int alter(int, int, int)",
        "int lose(int)", "int down(int)", "int up(int)", "int fuse(int, int)", "int peek(int, int)",
        "int poke(int, int, int)", "int told(int, int)", "int house(int)", "int block(int, int, int)",
        "long limb(int, int, int)", "int at(int, int)", "long unspent(int, int, int)", "int find(int, long, int)",
        "long balance(int, long)", "long pooled(int, int, int)", "int due(int, int)",
    };
    private static int wrong = 0;

    private static void must(String what, boolean holds) {
        if (!holds) {
            wrong++;
            System.out.println("not so: " + what);
        }
    }

    private static String told(Method m) {
        StringBuilder b = new StringBuilder(m.getReturnType().getName()).append(' ').append(m.getName()).append('(');
        for (int i = 0; i < m.getParameterCount(); i++) b.append(i == 0 ? "" : ", ").append(m.getParameterTypes()[i].getName());
        return b.append(')').toString();
    }

    private static Set<String> face() {
        Set<String> names = new TreeSet<>();
        Set<String> want = new TreeSet<>(Set.of(METHODS));
        Set<String> got = new TreeSet<>();
        for (Method m : ChainHouse.class.getDeclaredMethods()) {
            if (Modifier.isPrivate(m.getModifiers())) continue;
            must("public and no more: " + m, m.getModifiers() == Modifier.PUBLIC);
            got.add(told(m));
            names.add(m.getName());
        }
        must("the methods are " + want + ", not " + got, got.equals(want));
        must("the class is public and final", ChainHouse.class.getModifiers() == (Modifier.PUBLIC | Modifier.FINAL));
        Constructor<?>[] made = ChainHouse.class.getDeclaredConstructors();
        must("one public constructor of an int", made.length == 1 && made[0].getModifiers() == Modifier.PUBLIC
            && made[0].getParameterCount() == 1 && made[0].getParameterTypes()[0] == int.class);
        Set<String> constants = new TreeSet<>();
        for (Field f : ChainHouse.class.getDeclaredFields()) {
            if (Modifier.isPrivate(f.getModifiers())) continue;
            must("a constant: " + f, f.getModifiers() == (Modifier.PUBLIC | Modifier.STATIC | Modifier.FINAL) && f.getType() == int.class);
            constants.add(f.getName());
        }
        must("the constants", constants.equals(Set.of("BAD", "IS_DOWN", "FULL", "NO")));
        int[] values = {ChainHouse.BAD, ChainHouse.IS_DOWN, ChainHouse.FULL, ChainHouse.NO};
        for (int i = 0; i < 4; i++) must("constant " + i, values[i] == -1 - i);
        return names;
    }

    /** The face as the document has it, where it is at hand. */
    private static void document() {
        String document = Edges.document();
        if (document == null) return;
        String face = document.substring(document.indexOf("```java"), document.indexOf("## Terms"));
        Set<String> want = new TreeSet<>();
        Matcher call = Pattern.compile("public (\\w+ \\w+)\\(([^)]*)\\);").matcher(face);
        while (call.find()) want.add(call.group(1) + "(" + call.group(2).replaceAll(" \\w+(,|$)", "$1") + ")");
        must("the document's methods are those here, not " + want, want.equals(new TreeSet<>(Set.of(METHODS))));
        must("its constants", face.contains("public static final int BAD = -1, IS_DOWN = -2, FULL = -3, NO = -4;"));
        must("its class", face.contains("public final class ChainHouse {"));
        must("its constructor", face.contains("public ChainHouse(int n);"));
    }

    private static void inside(Set<String> names) {
        Class<?>[] all = ChainHouse.class.getDeclaredClasses();
        must("at most some twelve classes", all.length < 12);
        for (Class<?> c : all) {
            must("static and final: " + c, Modifier.isStatic(c.getModifiers()) && Modifier.isFinal(c.getModifiers()));
            for (Method m : c.getDeclaredMethods()) {
                must("no name of the face: " + m, !names.contains(m.getName()));
                must("seven parameters at most: " + m, m.getParameterCount() <= 7);
            }
            fields(c);
        }
        for (Method m : ChainHouse.class.getDeclaredMethods()) {
            must("no name of the face: " + m, Modifier.isPublic(m.getModifiers()) || !names.contains(m.getName()));
            must("seven parameters at most: " + m, m.getParameterCount() <= 7);
        }
        fields(ChainHouse.class);
    }

    private static void fields(Class<?> c) {
        int many = 0;
        for (Field f : c.getDeclaredFields()) {
            boolean isStatic = Modifier.isStatic(f.getModifiers());
            must("static fields are final: " + f, !isStatic || Modifier.isFinal(f.getModifiers()));
            if (!isStatic) many++;
        }
        must("some twenty fields at most: " + c, many <= 20);
    }

    private static void text() throws IOException {
        String source = Files.readString(Path.of("src/main/java/ChainHouse.java"));
        String bare = source.replaceAll("(?s)/\\*.*?\\*/", "").replaceAll("//[^\n]*", "");
        Matcher word = Pattern.compile("\\b(throw|throws|try|catch|synchronized|assert|package|volatile|native)\\b|->|::").matcher(bare);
        while (word.find()) must("without the word " + word.group(), false);
        Matcher imports = Pattern.compile("import ([^;]*);").matcher(bare);
        while (imports.find()) must("imports " + imports.group(1), imports.group(1).equals("java.util.Arrays"));
        Matcher library = Pattern.compile("\\b(System|Arrays|Math|Integer|Long)\\.(\\w+)").matcher(bare);
        Set<String> allowed = Set.of("System.arraycopy", "Arrays.fill", "Math.min", "Math.max");
        while (library.find()) must("the library's " + library.group(), allowed.contains(library.group()));
        must("no text", bare.indexOf('"') < 0);
    }

    public static void main(String[] args) throws IOException {
        inside(face());
        document();
        text();
        System.out.println(wrong == 0 ? "the face and the rules are kept" : wrong + " are not");
        if (wrong != 0) System.exit(1);
    }
}
