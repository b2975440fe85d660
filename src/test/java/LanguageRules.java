import java.lang.management.ManagementFactory;
import java.lang.reflect.Constructor;
import java.lang.reflect.Field;
import java.lang.reflect.Method;
import java.lang.reflect.Modifier;
import java.nio.file.Files;
import java.nio.file.Path;
import java.util.List;
import java.util.Set;
import java.util.TreeSet;
import java.util.regex.Matcher;
import java.util.regex.Pattern;

/** What of LANGUAGE.md can be seen by a machine: the face, the words that are ruled out, the room of a run. */
public final class LanguageRules {
    private static final Set<String> FACE = Set.of("room(int)int", "tries(int)int", "append(int)boolean",
        "row(int,int,int,int,int)int", "delete(int,int,int,int,int)boolean", "compact(int,int)boolean",
        "step(int)int", "crash(int)boolean", "writer(int,int)int", "checkpoint(int)int", "vacuum(int)int",
        "latest()int", "files(int)int", "file(int,int)int", "at(int,int,int)int", "find(int,int,int,int)int",
        "found(int)int", "size(int,int)int", "octet(int,int,int)int", "spoil(int,int,int,int)int", "count(int)int");
    private static final List<String> RULED_OUT = List.of("\\bthrow", "\\btry\\b", "\\bcatch\\b", "\\bsynchronized\\b",
        "\\bassert\\b", "->", "::", "\\bprotected\\b", "\\bpackage\\b", "\\bnew \\w+\\([^)]*\\) *\\{", "Exact\\b",
        "\\bfloat\\b", "\\bdouble\\b", "\\bstatic *\\{", "\\bSystem\\.(?!arraycopy)", "\\bRandom\\b", "\\bThread\\b");
    private static final long ROOM_ELEMENTS = 7_300_000;

    private static int wrong = 0;

    private static void must(boolean holds, String rule) {
        if (!holds) {
            wrong++;
            System.out.println("not so: " + rule);
        }
    }

    private static String signature(Method m) {
        StringBuilder text = new StringBuilder(m.getName()).append('(');
        for (Class<?> type : m.getParameterTypes()) {
            text.append(text.charAt(text.length() - 1) == '(' ? "" : ",").append(type);
        }
        return text.append(')').append(m.getReturnType()).toString();
    }

    private static void face() {
        Class<LakeTable> c = LakeTable.class;
        must(Modifier.isFinal(c.getModifiers()) && Modifier.isPublic(c.getModifiers()), "public final class");
        Set<String> open = new TreeSet<>();
        Set<String> names = new TreeSet<>();
        FACE.forEach(s -> names.add(s.substring(0, s.indexOf('('))));
        for (Method m : c.getDeclaredMethods()) {
            if (Modifier.isPrivate(m.getModifiers())) {
                must(!names.contains(m.getName()), "no private method is named as a public one: " + m);
            } else {
                open.add(signature(m));
                must(Modifier.isPublic(m.getModifiers()) && !Modifier.isStatic(m.getModifiers()), "public: " + m);
            }
        }
        must(open.equals(FACE), "the methods of the face: " + open);
        Constructor<?>[] made = c.getDeclaredConstructors();
        must(made.length == 1 && made[0].getParameterCount() == 0 && Modifier.isPublic(made[0].getModifiers()),
            "one public constructor");
        for (Field f : c.getDeclaredFields()) {
            boolean isOfFace = f.getName().equals("NONE") || f.getName().equals("MISSING");
            must(isOfFace == Modifier.isPublic(f.getModifiers()), "public only NONE and MISSING: " + f);
            must(isOfFace || Modifier.isPrivate(f.getModifiers()), "private: " + f);
        }
        must(c.getDeclaredClasses().length + 1 <= 12, "some twelve classes");
        for (Class<?> inside : c.getDeclaredClasses()) {
            must(Modifier.isStatic(inside.getModifiers()), "static: " + inside);
            fields(inside);
        }
        fields(c);
    }

    private static void fields(Class<?> c) {
        int own = 0;
        for (Field f : c.getDeclaredFields()) {
            own += Modifier.isStatic(f.getModifiers()) ? 0 : 1;
            must(!Modifier.isStatic(f.getModifiers()) || Modifier.isFinal(f.getModifiers()), "static is final: " + f);
        }
        must(own <= 20, "some twenty fields: " + c);
        for (Method m : c.getDeclaredMethods()) {
            must(m.getParameterCount() <= 7, "seven parameters: " + m);
        }
    }

    private static void words() throws Exception {
        String text = Files.readString(Path.of("src/main/java/LakeTable.java"));
        String code = text.replaceAll("(?s)/\\*.*?\\*/", "").replaceAll("//[^\n]*", "");
        for (String word : RULED_OUT) {
            Matcher m = Pattern.compile(word).matcher(code);
            must(!m.find(), "no " + word);
        }
        for (String line : code.split("\n")) {
            must(!line.startsWith("import ") || line.equals("import java.util.ArrayList;")
                || line.equals("import java.util.Arrays;"), "no other library: " + line);
        }
        int since = 0;
        String[] lines = text.split("\n");
        for (int i = 0; i < lines.length; i++) {
            if (lines[i].matches(" {4,8}[\\w\\[\\]<> ]+\\(.*\\) \\{")) {
                since = i;
            }
            must(!lines[i].matches(" {4,8}\\}") || i - since <= 60 || since == 0, "short methods: line " + since);
        }
    }

    /** Each element takes a byte or more, so that fewer bytes than the room has elements are surely few enough. */
    private static void room() {
        com.sun.management.ThreadMXBean threads =
            (com.sun.management.ThreadMXBean) ManagementFactory.getThreadMXBean();
        long before = threads.getCurrentThreadAllocatedBytes();
        LakeTable x = new LakeTable();
        int calls = 1;
        x.room(20000);
        for (int k = 0; k < 4; k++) {
            x.append(k % 2);
            for (int i = 0; i < 96; i++, calls++) {
                x.row(k % 2, i / 48 + k, i * 1234567, i * i * 7654321, i * -99999999);
            }
            for (int s = 0; s < 4; s++, calls++) {
                x.step(k % 2);
            }
        }
        for (int k = 0; calls < 512; k++, calls += 3) {
            x.delete(k % 4, 1, 0, 2, 1234567);
            x.step(k % 4);
            x.step(k % 4);
            x.crash(k % 4);
            x.vacuum(k % 2);
        }
        long used = threads.getCurrentThreadAllocatedBytes() - before;
        before = threads.getCurrentThreadAllocatedBytes();
        new LakeTable();
        long made = threads.getCurrentThreadAllocatedBytes() - before;
        System.out.println("a dear run takes " + used + " bytes, a new object " + made);
        must(used < ROOM_ELEMENTS, "a run has room");
        must(made * 100 < ROOM_ELEMENTS, "a hundred objects have room");
    }

    public static void main(String[] args) throws Exception {
        face();
        words();
        room();
        System.out.println(wrong == 0 ? "all rules are kept" : wrong + " rules are not kept");
        if (wrong != 0) {
            System.exit(1);
        }
    }
}
