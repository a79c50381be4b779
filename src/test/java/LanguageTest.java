import java.lang.management.ManagementFactory;
import java.lang.reflect.Constructor;
import java.lang.reflect.Field;
import java.lang.reflect.Method;
import java.lang.reflect.Modifier;
import java.nio.file.Files;
import java.nio.file.Path;
import java.util.ArrayList;
import java.util.List;
import java.util.Set;
import java.util.TreeSet;
import java.util.regex.Matcher;
import java.util.regex.Pattern;

/** The face of the document, and those rules of LANGUAGE.md that can be looked at by a program. */
public final class LanguageTest {
    private static final Path SOURCE = Path.of("src/main/java/GrainGrower.java");
    private static final Path DOCUMENT = Path.of("../shared/DOC.md");

    private static int wrong = 0;

    public static void main(String[] args) throws Exception {
        face();
        membersAndClasses();
        words();
        methodLengths();
        room();
        System.out.println(wrong == 0 ? "the rules are kept" : wrong + " rules are broken");
        if (wrong != 0) {
            System.exit(1);
        }
    }

    private static void must(boolean holds, String what) {
        if (!holds) {
            wrong++;
            System.out.println("not so: " + what);
        }
    }

    /** Every member that the document's Java block tells is there, and no other public one. */
    private static void face() throws Exception {
        Set<String> want = new TreeSet<>();
        Matcher m = Pattern.compile("(?m)^ {4}public (int|long) (\\w+)\\(([^)]*)\\);")
                .matcher(Files.readString(DOCUMENT));
        while (m.find()) {
            want.add(m.group(1) + " " + m.group(2) + "(" + m.group(3).replaceAll(" \\w+(,|$)", "$1") + ")");
        }
        Set<String> got = new TreeSet<>();
        for (Method method : GrainGrower.class.getDeclaredMethods()) {
            if (Modifier.isPublic(method.getModifiers())) {
                List<String> types = new ArrayList<>();
                for (Class<?> type : method.getParameterTypes()) {
                    types.add(type.getName());
                }
                got.add(method.getReturnType() + " " + method.getName() + "(" + String.join(", ", types) + ")");
            }
        }
        must(want.size() == 41, "the document's block has 41 methods: " + want.size());
        must(got.equals(want), "the face is " + want + ", but here " + got);
        must(Modifier.isFinal(GrainGrower.class.getModifiers()), "the class is final");
        must(GrainGrower.NONE == -1 && GrainGrower.BAD == -2, "NONE, BAD");
        must(GrainGrower.STATE == -3 && GrainGrower.FULL == -4, "STATE, FULL");
        must(GrainGrower.NO == Long.MIN_VALUE, "NO");
        Constructor<?>[] made = GrainGrower.class.getDeclaredConstructors();
        must(made.length == 1 && Modifier.isPublic(made[0].getModifiers())
                && made[0].getParameterCount() == 0, "one constructor");
    }

    private static void membersAndClasses() {
        Set<String> constants = new TreeSet<>(List.of("NONE", "BAD", "STATE", "FULL", "NO"));
        Set<String> names = new TreeSet<>();
        for (Field field : GrainGrower.class.getDeclaredFields()) {
            boolean isShown = constants.contains(field.getName());
            must(isShown != Modifier.isPrivate(field.getModifiers()), "field " + field);
        }
        for (Method method : GrainGrower.class.getDeclaredMethods()) {
            int modifiers = method.getModifiers();
            must(Modifier.isPublic(modifiers) || Modifier.isPrivate(modifiers), "method " + method);
            if (Modifier.isPublic(modifiers)) {
                names.add(method.getName());
            }
        }
        for (Method method : GrainGrower.class.getDeclaredMethods()) {
            must(Modifier.isPublic(method.getModifiers()) || !names.contains(method.getName()),
                    "a name of the face: " + method);
        }
        List<Class<?>> classes = new ArrayList<>(List.of(GrainGrower.class.getDeclaredClasses()));
        for (Class<?> inner : classes) {
            must(Modifier.isStatic(inner.getModifiers()), "static: " + inner);
            for (Method method : inner.getDeclaredMethods()) {
                must(!names.contains(method.getName()), "a name of the face: " + method);
            }
        }
        classes.add(GrainGrower.class);
        must(classes.size() <= 12, "at most twelve classes");
        for (Class<?> one : classes) {
            int fields = 0;
            for (Field field : one.getDeclaredFields()) {
                boolean isStatic = Modifier.isStatic(field.getModifiers());
                fields += isStatic ? 0 : 1;
                must(!isStatic || Modifier.isFinal(field.getModifiers()), "static is final: " + field);
            }
            must(fields <= 20, "at most twenty fields: " + one);
            for (Method method : one.getDeclaredMethods()) {
                must(method.getParameterCount() <= 7, "at most seven parameters: " + method);
            }
        }
    }

    private static String code() throws Exception {
        return Files.readString(SOURCE).replaceAll("(?s)/\\*.*?\\*/", " ").replaceAll("//[^\n]*", " ");
    }

    private static void words() throws Exception {
        String code = code();
        String[] never = {"\\b(throw|throws|try|catch|synchronized|assert|protected|native|volatile)\\b",
            "->", "::", "Exact\\b", "\\bpackage\\b", "\\b(Random|Thread|Object|Class|Exception|Error)\\b",
            "\\b(hashCode|toString|getClass)\\b", "\\bstatic *\\{", "\\[\\] *\\[", "\\b(var|goto)\\b",
            "\\bnanoTime|currentTimeMillis\\b", "while *\\( *true", "for *\\( *; *;"};
        for (String word : never) {
            Matcher m = Pattern.compile(word).matcher(code);
            must(!m.find(), "the code has none of " + word);
        }
        Matcher imports = Pattern.compile("import ([\\w.*]+);").matcher(code);
        while (imports.find()) {
            must(imports.group(1).equals("java.util.Arrays"), "only Arrays: " + imports.group(1));
        }
        Matcher calls = Pattern.compile("\\b(System|Arrays|Math|Long|Integer)\\.(\\w+)").matcher(code);
        Set<String> known = Set.of("System.arraycopy", "Arrays.fill", "Math.abs", "Math.min", "Math.max",
                "Math.floorMod", "Long.MIN_VALUE", "Long.bitCount");
        while (calls.find()) {
            must(known.contains(calls.group()), "a known function: " + calls.group());
        }
    }

    private static void methodLengths() throws Exception {
        Pattern head = Pattern.compile("((?: {4}){1,2})\\w[\\w\\[\\] ]*\\(.*\\) \\{");
        String end = null;
        int lines = 0;
        int methods = 0;
        for (String line : Files.readAllLines(SOURCE)) {
            lines++;
            Matcher m = head.matcher(line);
            if (m.matches()) {
                end = m.group(1) + "}";
                lines = 1;
                methods++;
            } else if (line.equals(end)) {
                must(lines <= 60, "a method of " + lines + " lines");
                end = null;
            }
        }
        must(methods > 100, "methods were found: " + methods);
    }

    /** Calls make nothing: all they need is made with the object. */
    private static void room() {
        com.sun.management.ThreadMXBean bean =
                (com.sun.management.ThreadMXBean) ManagementFactory.getThreadMXBean();
        long id = Thread.currentThread().getId();
        GrainGrower x = new GrainGrower();
        callAll(x);
        long before = bean.getThreadAllocatedBytes(id);
        long nothing = bean.getThreadAllocatedBytes(id) - before;
        before = bean.getThreadAllocatedBytes(id);
        for (int i = 0; i < 20; i++) {
            callAll(x);
        }
        long made = bean.getThreadAllocatedBytes(id) - before - nothing;
        must(made < 1000, "calls make nothing, but made " + made + " bytes");
        before = bean.getThreadAllocatedBytes(id);
        GrainGrower y = new GrainGrower();
        made = bean.getThreadAllocatedBytes(id) - before - nothing;
        must(y.told(0) == 0 && made < 20000, "an object is small: " + made + " bytes");
    }

    private static void callAll(GrainGrower x) {
        x.size(6, 6);
        x.set(0, 90);
        x.set(1, 1);
        x.set(2, 2);
        x.price(1, 4);
        for (int i = 0; i < 36; i++) {
            x.mark(i, i * 5 % 8);
        }
        x.pin(3, 1);
        x.seed(5);
        x.change(0, 1);
        x.image();
        x.tries(200);
        x.cool(30);
        x.undo();
        x.feed('n');
        x.feed('1');
        x.read();
        x.read();
        for (int i = -1; i < 12; i++) {
            x.of(i, 3);
            x.beside(i, 1);
            x.costs(i, 1);
            x.more(i, 1);
            x.told(i);
            x.share(i);
            x.grain(i, 3);
            x.large(i);
            x.meets(1, i);
            x.walls(i, 35);
            x.gone(i);
            x.cold(i);
            x.best(i);
            x.see(i, 1);
            x.fits(60, i);
            x.odds(i);
            x.mean(i);
            x.worth(i);
            x.event(i, 3);
            x.after(i);
            x.book(i, 1);
            x.looked();
            x.tape(i, i, 36);
            x.item(i, 3, i);
            x.peek(i, 3);
            x.shift(i, 0, i, 1, 9);
            x.judge(i, 0);
            x.count(i);
        }
    }
}
