import java.io.ByteArrayInputStream;
import java.io.DataInputStream;
import java.io.File;
import java.io.IOException;
import java.lang.management.ManagementFactory;
import java.lang.reflect.Array;
import java.lang.reflect.Constructor;
import java.lang.reflect.Executable;
import java.lang.reflect.Field;
import java.lang.reflect.InvocationTargetException;
import java.lang.reflect.Method;
import java.lang.reflect.Modifier;
import java.nio.file.Files;
import java.nio.file.Path;
import java.util.ArrayList;
import java.util.Collections;
import java.util.IdentityHashMap;
import java.util.List;
import java.util.Random;
import java.util.Set;
import java.util.TreeSet;

/** The rules of LANGUAGE.md that can be seen from outside: face, library, exceptions, room. */
public final class LanguageTest {
    private static final Set<String> LIBRARY = Set.of(
            "java/lang/Object.<init>", "java/lang/Math.min", "java/lang/Math.max", "java/lang/Integer.bitCount",
            "java/lang/System.arraycopy", "java/lang/String.length", "java/lang/String.charAt",
            "java/lang/IllegalArgumentException.<init>", "java/lang/IllegalStateException.<init>",
            "java/util/NoSuchElementException.<init>");
    private static final int INVOKE_DYNAMIC = 18;

    private LanguageTest() {
    }

    public static void main(String[] args) throws Exception {
        face();
        names();
        library();
        source();
        machineNeverThrows();
        room();
        sizeOfAnObject();
        Check.end();
    }

    // ---- the face ----

    /** Each line of the document's face against what the compiled class has. */
    private static void face() throws IOException {
        Set<String> seen = new TreeSet<>();
        for (Method m : SlipSecret.class.getDeclaredMethods()) {
            if (!Modifier.isPrivate(m.getModifiers()) && !m.isSynthetic()) {
                seen.add(lineOf(m, m.getReturnType() + " " + m.getName()));
            }
        }
        for (Constructor<?> c : SlipSecret.class.getDeclaredConstructors()) {
            seen.add(lineOf(c, c.getName()));
        }
        for (Field f : SlipSecret.class.getDeclaredFields()) {
            if (!Modifier.isPrivate(f.getModifiers())) {
                seen.add(Modifier.toString(f.getModifiers()) + " " + f.getType() + " " + f.getName() + " = " + SlipSecret.NONE);
            }
        }
        Check.same("the face", String.join("\n", documentsFace()), String.join("\n", seen));
        Check.same("the class", "public final", Modifier.toString(SlipSecret.class.getModifiers()));
    }

    /** As the document writes it, but that parameters have no names. */
    private static String lineOf(Executable e, String name) {
        String line = Modifier.toString(e.getModifiers()) + " " + name + "(" + namesOf(e.getParameterTypes()) + ")";
        return e.getExceptionTypes().length == 0 ? line : line + " throws " + namesOf(e.getExceptionTypes());
    }

    private static String namesOf(Class<?>[] types) {
        List<String> names = new ArrayList<>();
        for (Class<?> type : types) {
            names.add(type.getSimpleName());
        }
        return String.join(", ", names);
    }

    private static Set<String> documentsFace() throws IOException {
        String document = Files.readString(Path.of(System.getProperty("project", "."), "..", "shared", "DOC.md"));
        int from = document.indexOf("public final class SlipSecret {");
        Set<String> lines = new TreeSet<>();
        for (String line : document.substring(from, document.indexOf("```", from)).split("\n")) {
            if (line.startsWith("    public ")) {
                lines.add(line.trim().replace(";", "").replaceAll("\\b(int|boolean) \\w+(?=[,)])", "$1"));
            }
        }
        return lines;
    }

    private static void names() {
        Set<String> open = new TreeSet<>();
        for (Method m : SlipSecret.class.getDeclaredMethods()) {
            if (Modifier.isPublic(m.getModifiers())) {
                open.add(m.getName());
            }
        }
        List<Class<?>> classes = new ArrayList<>(List.of(SlipSecret.class.getDeclaredClasses()));
        Check.due("twelve classes at most", 1, classes.size() < 12 ? 1 : 0);
        classes.add(SlipSecret.class);
        for (Class<?> c : classes) {
            int fields = 0;
            for (Field f : c.getDeclaredFields()) {
                boolean isStatic = Modifier.isStatic(f.getModifiers());
                fields += isStatic ? 0 : 1;
                Check.due("static " + f + " is final", 1, !isStatic || Modifier.isFinal(f.getModifiers()) ? 1 : 0);
            }
            Check.due("fields of " + c + " are " + fields, 1, fields <= 20 ? 1 : 0);
            for (Method m : c.getDeclaredMethods()) {
                boolean isHidden = c != SlipSecret.class || Modifier.isPrivate(m.getModifiers());
                Check.due(m + " has a name of the face", 0, isHidden && open.contains(m.getName()) ? 1 : 0);
                Check.due(m + " has seven parameters at most", 1, m.getParameterCount() <= 7 ? 1 : 0);
            }
        }
    }

    // ---- what the compiled classes call ----

    private static void library() throws IOException {
        File folder = new File(SlipSecret.class.getProtectionDomain().getCodeSource().getLocation().getPath());
        int files = 0;
        for (File file : folder.listFiles()) {
            if (file.getName().matches("SlipSecret(\\$.*)?\\.class")) {
                files++;
                for (String call : callsOf(Files.readAllBytes(file.toPath()))) {
                    Check.same(file.getName(), "within the library", LIBRARY.contains(call) ? "within the library" : call);
                }
            }
        }
        Check.due("class files were read", 1, files > 1 ? 1 : 0);
    }

    private static List<String> callsOf(byte[] bytes) throws IOException {
        DataInputStream in = new DataInputStream(new ByteArrayInputStream(bytes));
        in.skipBytes(8);
        int count = in.readUnsignedShort();
        Object[] pool = new Object[count];
        int[] tags = new int[count];
        for (int i = 1; i < count; i++) {
            int tag = in.readUnsignedByte();
            tags[i] = tag;
            switch (tag) {
                case 1 -> pool[i] = in.readUTF();
                case 3, 4 -> in.skipBytes(4);
                case 5, 6 -> {
                    in.skipBytes(8);
                    i++;
                }
                case 7, 8, 16, 19, 20 -> pool[i] = new int[] {in.readUnsignedShort()};
                case 15 -> in.skipBytes(3);
                default -> pool[i] = new int[] {in.readUnsignedShort(), in.readUnsignedShort()};
            }
        }
        List<String> calls = new ArrayList<>();
        for (int i = 1; i < count; i++) {
            if (tags[i] == 10 || tags[i] == 11) {
                int[] ref = (int[]) pool[i];
                String owner = (String) pool[((int[]) pool[ref[0]])[0]];
                String name = (String) pool[((int[]) pool[ref[1]])[0]];
                if (!owner.startsWith("SlipSecret")) {
                    calls.add(owner + "." + name);
                }
            } else if (tags[i] == INVOKE_DYNAMIC) {
                calls.add("invokedynamic");
            }
        }
        return calls;
    }

    private static void source() throws IOException {
        Path path = Path.of(System.getProperty("project", "."), "src/main/java/SlipSecret.java");
        String text = Files.readString(path);
        for (String word : List.of("finally", "synchronized", "assert ", "catch", "->", "::", "package ", "static {")) {
            Check.due("'" + word + "' stands in the source", 0, text.contains(word) ? 1 : 0);
        }
        for (int i = 0; i < text.length(); i++) {
            Check.due("a sign above 127 at " + i, 0, text.charAt(i) > 127 ? 1 : 0);
        }
        String[] lines = text.split("\n");
        int start = -1;
        for (int i = 0; i < lines.length; i++) {
            boolean opens = lines[i].matches("( {4}| {8})[^ /*].*\\).*\\{") || lines[i].matches(" {12}throws .*\\{");
            if (opens && !lines[i].matches(" *(if|for|while|switch).*")) {
                start = i;
            }
            if (start >= 0 && lines[i].matches("( {4}| {8})\\}")) {
                Check.due("lines of the method at " + (start + 1), 1, i - start <= 60 ? 1 : 0);
                start = -1;
            }
        }
    }

    // ---- exceptions and room ----

    private static final int[] EDGES = {Integer.MIN_VALUE, Integer.MIN_VALUE + 1, -65537, -100, -41, -40, -1, 0, 1, 2, 3,
        4, 5, 6, 7, 8, 9, 10, 11, 15, 16, 17, 18, 19, 20, 27, 28, 29, 31, 32, 50, 51, 60, 61, 99, 100, 125, 126, 399, 400,
        401, 999, 1000, 9999, 10000, 65535, 65536, 65537, Integer.MAX_VALUE - 1, Integer.MAX_VALUE};

    private static Object[] arguments(Method m, Random random) {
        Object[] out = new Object[m.getParameterCount()];
        for (int i = 0; i < out.length; i++) {
            boolean isSmall = random.nextInt(3) > 0;
            out[i] = m.getParameterTypes()[i] == boolean.class ? (Object) random.nextBoolean()
                    : isSmall ? random.nextInt(8) : EDGES[random.nextInt(EDGES.length)];
        }
        return out;
    }

    /** Each exception comes from a throw of the class, and is of a kind that the method names. */
    private static void machineNeverThrows() throws Exception {
        Random random = new Random(20);
        List<Method> methods = new ArrayList<>();
        for (Method m : SlipSecret.class.getDeclaredMethods()) {
            if (Modifier.isPublic(m.getModifiers())) {
                methods.add(m);
            }
        }
        methods.sort((a, b) -> a.getName().compareTo(b.getName()));
        for (int run = 0; run < 300; run++) {
            SlipSecret x = run % 4 == 0 ? new SlipSecret() : Check.told(text(random));
            for (int i = 0; i < 512; i++) {
                Method m = methods.get(random.nextInt(methods.size()));
                if (m.getName().equals("text") && random.nextInt(10) > 0) {
                    continue;
                }
                Object[] given = arguments(m, random);
                try {
                    m.invoke(x, given);
                } catch (InvocationTargetException e) {
                    Throwable cause = e.getCause();
                    boolean isThrown = cause.getStackTrace()[0].getMethodName().startsWith("refuse");
                    boolean isNamed = List.of(m.getExceptionTypes()).contains(cause.getClass());
                    Check.due(m.getName() + " threw " + cause, 1, isThrown && isNamed ? 1 : 0);
                }
            }
        }
    }

    private static String text(Random random) {
        StringBuilder out = new StringBuilder();
        int rings = 2 + random.nextInt(9);
        for (int i = 0; i < rings; i++) {
            out.append("ring").append(random.nextInt(60)).append(' ').append(random.nextInt(9) - 4).append(" 1;");
        }
        for (int gap = 1, pairs = 0; gap < rings; gap++) {
            for (int a = 0; a + gap < rings && pairs < 24; a++, pairs++) {
                out.append("pair").append(a).append(' ').append(a + gap).append(';');
            }
        }
        String[] codes = {"", "hamming;", "repeat 1;", "all;", "all;hamming;", "all;repeat 1;"};
        return out.append(codes[random.nextInt(codes.length)]).toString();
    }

    /** Calls make no rows of their own: the dearest ones stay far below a row each. */
    private static void room() {
        com.sun.management.ThreadMXBean bean = (com.sun.management.ThreadMXBean) ManagementFactory.getThreadMXBean();
        Random random = new Random(5);
        SlipSecret x = Check.told(text(random));
        x.set(3, 1);
        x.set(4, 1);
        long before = bean.getCurrentThreadAllocatedBytes();
        for (int i = 0; i < 40; i++) {
            x.enrol(0);
            x.hear(0);
            x.train(2);
            x.ways(0);
            x.leak(3);
            x.leak(4);
            x.needs();
            x.curve(3, 0);
            x.fails(20, i, 60, 0);
            x.range(0);
            x.guardFor(1);
        }
        long made = bean.getCurrentThreadAllocatedBytes() - before;
        Check.due("bytes made by 440 dear calls: " + made, 1, made < 20000 ? 1 : 0);
    }

    /** A thousand objects find place in the room of 600,000 objects and 7,300,000 elements. */
    private static void sizeOfAnObject() throws Exception {
        Set<Object> seen = Collections.newSetFromMap(new IdentityHashMap<>());
        long elements = elementsIn(new SlipSecret(), seen);
        Check.due("objects of a new one: " + seen.size(), 1, seen.size() <= 600 ? 1 : 0);
        Check.due("elements of a new one: " + elements, 1, elements <= 7300 ? 1 : 0);
    }

    private static long elementsIn(Object one, Set<Object> seen) throws Exception {
        if (one == null || !seen.add(one)) {
            return 0;
        }
        long elements = 0;
        if (one.getClass().isArray()) {
            elements += Array.getLength(one);
            for (int i = 0; one instanceof Object[] row && i < row.length; i++) {
                elements += elementsIn(row[i], seen);
            }
            return elements;
        }
        for (Field f : one.getClass().getDeclaredFields()) {
            if (!Modifier.isStatic(f.getModifiers())) {
                f.setAccessible(true);
                elements += f.getType().isPrimitive() ? 1 : 1 + elementsIn(f.get(one), seen);
            }
        }
        return elements;
    }
}
