import java.io.DataInputStream;
import java.io.IOException;
import java.io.InputStream;
import java.lang.reflect.Constructor;
import java.lang.reflect.Field;
import java.lang.reflect.Method;
import java.lang.reflect.Modifier;
import java.nio.file.Files;
import java.nio.file.Path;
import java.util.Set;
import java.util.TreeSet;
import java.util.regex.Matcher;
import java.util.regex.Pattern;

/** What of LANGUAGE.md can be seen from outside: the face, and words that the program may not use. */
public final class RulesTest {
    private static final Set<String> FACE = Set.of("row(iii)", "set(iii)", "copy(iiiii)", "drop(i)", "feed(li)", "fold()",
            "fault()", "run(i)", "runs(iii)", "dawn(i)", "undo()", "hurdle(ii)", "heavy(i)", "pen(ii)", "stood(iiii)",
            "ahead(iii)", "reached(ii)", "comes()", "round(ii)", "sticks(iii)", "theft(iiii)", "mixed(iii)", "image(i)",
            "restore(i)", "kind(i)", "as(ii)", "ask(ii)", "trace(i)", "count(i)", "status()");

    /** What the program uses of rule 4; a method more is looked up there before it comes in here. */
    private static final Set<String> LIBRARY = Set.of("java/lang/Object.<init>", "java/lang/String.length",
            "java/lang/String.charAt", "java/lang/System.arraycopy", "java/lang/Long.bitCount", "java/util/Arrays.fill");

    public static void main(String[] args) throws IOException {
        face();
        constants();
        members();
        words();
        library();
        Check.end();
    }

    private static void face() {
        Set<String> open = new TreeSet<>();
        Set<String> closed = new TreeSet<>();
        for (Method m : FoldGates.class.getDeclaredMethods()) {
            if (Modifier.isPrivate(m.getModifiers())) {
                closed.add(m.getName());
                continue;
            }
            StringBuilder s = new StringBuilder(m.getName()).append('(');
            for (Class<?> type : m.getParameterTypes()) s.append(type.getName().charAt(0));
            open.add(s.append(')').toString());
            holds("public: " + m, m.getModifiers() == Modifier.PUBLIC && m.getReturnType() == int.class);
        }
        holds("the face is the document's: " + open, open.equals(FACE));
        for (String name : closed) {
            for (String of : FACE) holds("private and public: " + name, !of.startsWith(name + "("));
        }
        holds("the class", FoldGates.class.getModifiers() == (Modifier.PUBLIC | Modifier.FINAL));
        Constructor<?>[] made = FoldGates.class.getDeclaredConstructors();
        holds("one constructor", made.length == 1 && made[0].getParameterCount() == 0 && made[0].getModifiers() == Modifier.PUBLIC);
    }

    private static void constants() {
        Check.due("NONE", -1000000, FoldGates.NONE);
        Check.due("BAD", -1000001, FoldGates.BAD);
        Check.due("STATE", -1000002, FoldGates.STATE);
        Check.due("FULL", -1000003, FoldGates.FULL);
    }

    private static void members() {
        Set<String> constants = Set.of("NONE", "BAD", "STATE", "FULL");
        dueFields(FoldGates.class, constants);
        Class<?>[] inside = FoldGates.class.getDeclaredClasses();
        holds("classes", inside.length < 12);
        for (Class<?> c : inside) {
            holds("static: " + c, Modifier.isStatic(c.getModifiers()));
            dueFields(c, null);
        }
    }

    private static void dueFields(Class<?> of, Set<String> open) {
        int own = 0;
        for (Field f : of.getDeclaredFields()) {
            int how = f.getModifiers();
            if (Modifier.isStatic(how)) holds("static and final: " + f, Modifier.isFinal(how));
            else own++;
            if (open != null) holds("private: " + f, Modifier.isPrivate(how) != open.contains(f.getName()));
        }
        holds("fields of " + of, own <= 20);
    }

    private static void words() throws IOException {
        String text = Files.readString(Path.of("src/main/java/FoldGates.java"));
        String code = text.replaceAll("(?s)/\\*.*?\\*/", " ").replaceAll("//[^\n]*", " ").replaceAll("\"[^\"]*\"", "\"\"");
        Matcher banned = Pattern.compile("\\b(throw|throws|try|catch|finally|synchronized|assert|package|volatile|native)\\b"
                + "|->|::|\\b(System\\.(?!arraycopy)|Thread|Random|Object|HashMap|Exception)").matcher(code);
        while (banned.find()) holds("a word that is not allowed: " + banned.group(), false);
        Matcher imports = Pattern.compile("import ([^;]*);").matcher(code);
        while (imports.find()) holds("import " + imports.group(1), imports.group(1).equals("java.util.Arrays"));
        for (int k = 0; k < text.length(); k++) if (text.charAt(k) > 126) holds("a sign beyond 126 at " + k, false);
    }

    /** All methods that the compiled classes name, by their pools of constants. */
    private static void library() throws IOException {
        used(FoldGates.class);
        for (Class<?> c : FoldGates.class.getDeclaredClasses()) used(c);
    }

    private static void used(Class<?> of) throws IOException {
        try (InputStream in = of.getResourceAsStream(of.getName() + ".class"); DataInputStream data = new DataInputStream(in)) {
            data.skipNBytes(8);
            int size = data.readUnsignedShort();
            String[] texts = new String[size];
            int[][] pairs = new int[size][];
            for (int k = 1; k < size; k++) {
                int tag = data.readUnsignedByte();
                switch (tag) {
                    case 1: texts[k] = data.readUTF(); break;
                    case 3: case 4: data.skipNBytes(4); break;
                    case 5: case 6: data.skipNBytes(8); k++; break;
                    case 7: case 8: pairs[k] = new int[] {tag, data.readUnsignedShort(), 0}; break;
                    case 9: case 10: case 11: case 12:
                        pairs[k] = new int[] {tag, data.readUnsignedShort(), data.readUnsignedShort()};
                        break;
                    default: holds(of + " has a method reference, a lambda or texts joined by +: " + tag, false); return;
                }
            }
            for (int[] p : pairs) {
                if (p == null || p[0] < 9 || p[0] > 11) continue;
                String owner = texts[pairs[p[1]][1]];
                String member = owner + "." + texts[pairs[p[2]][1]];
                holds("of the library: " + member, owner.startsWith("FoldGates") || LIBRARY.contains(member));
            }
        }
    }

    private static void holds(String what, boolean does) {
        Check.due(what, 1, does ? 1 : 0);
    }
}
