import com.sun.management.ThreadMXBean;
import java.io.DataInputStream;
import java.io.IOException;
import java.io.InputStream;
import java.lang.management.ManagementFactory;
import java.lang.reflect.Field;
import java.lang.reflect.Method;
import java.lang.reflect.Modifier;
import java.nio.file.Files;
import java.nio.file.Path;
import java.util.ArrayList;
import java.util.List;
import java.util.Set;
import java.util.TreeSet;
import java.util.regex.Matcher;
import java.util.regex.Pattern;

/**
 * The rules of LANGUAGE.md that can be seen in the class files, in the words of the source, or by
 * what the calls allot.
 */
public final class LanguageTest {

    private static final Path SOURCE = Path.of("src/main/java/ForwardYard.java");

    /** Of what rule 4 lists, what the class uses; to use more of it, add it here. */
    private static final Set<String> LIBRARY = Set.of(
        "java/lang/Object.<init>", "java/lang/System.arraycopy", "java/util/Arrays.fill",
        "java/lang/IllegalArgumentException.<init>", "java/lang/IllegalStateException.<init>",
        "java/util/NoSuchElementException.<init>", "java/lang/IndexOutOfBoundsException.<init>");

    private static final Set<Class<?>> CONSTANTS = Set.of(
        int.class, long.class, boolean.class, char.class, String.class,
        int[].class, long[].class, char[].class, byte[].class);

    private static final Pattern FORBIDDEN = Pattern.compile(
        "\\b(finally|synchronized|assert|package)\\b|\\bstatic \\{");

    private final Checks checks = new Checks();
    private final List<Class<?>> classes = new ArrayList<>();

    public static void main(String[] args) throws IOException {
        LanguageTest test = new LanguageTest();
        test.classes.add(ForwardYard.class);
        test.classes.addAll(List.of(ForwardYard.class.getDeclaredClasses()));
        test.namesOfPrivateMethods();
        test.words();
        test.sizes();
        test.room();
        for (Class<?> one : test.classes) {
            test.staticFields(one);
            test.library(one);
        }
        test.checks.finish();
    }

    private void namesOfPrivateMethods() {
        Set<String> shown = new TreeSet<>();
        for (Method method : ForwardYard.class.getMethods()) {
            shown.add(method.getName());
        }
        for (Class<?> one : classes) {
            for (Method method : one.getDeclaredMethods()) {
                boolean hidden = !Modifier.isPublic(method.getModifiers());
                boolean twice = hidden && shown.contains(method.getName());
                checks.due("rule 1: " + method + " bears a public one's name", twice, false);
            }
        }
    }

    /** Words in comments and texts don't count. */
    private void words() throws IOException {
        String bare = Files.readString(SOURCE)
            .replaceAll("(?s)/\\*.*?\\*/|//[^\n]*|\"[^\"\n]*\"", "");
        Matcher found = FORBIDDEN.matcher(bare);
        while (found.find()) {
            checks.due("rules 5 and 6: the source has " + found.group(), true, false);
        }
    }

    private void sizes() {
        checks.due("rule 11: at most 12 classes", classes.size() <= 12, true);
        for (Class<?> one : classes) {
            int fields = 0;
            for (Field field : one.getDeclaredFields()) {
                fields += Modifier.isStatic(field.getModifiers()) ? 0 : 1;
            }
            checks.due("rule 11: at most 20 fields in " + one, fields <= 20, true);
            for (Method method : one.getDeclaredMethods()) {
                boolean few = method.getParameterCount() <= 7;
                checks.due("rule 11: at most 7 parameters in " + method, few, true);
            }
        }
    }

    /** All rows are made in the constructor: a call that doesn't throw makes no object at all. */
    private void room() {
        ForwardYard yard = new ForwardYard();
        ThreadMXBean bean = (ThreadMXBean) ManagementFactory.getThreadMXBean();
        useAll(yard);
        long before = bean.getCurrentThreadAllocatedBytes();
        int rounds = 1000;
        for (int i = 0; i < rounds; i++) {
            useAll(yard);
        }
        long bytesOfAUse = (bean.getCurrentThreadAllocatedBytes() - before) / rounds;
        checks.due("rule 12: bytes allotted by one use of each call", bytesOfAUse, 0L);
    }

    private static void useAll(ForwardYard yard) {
        yard.make(0, 2, yard.figure(3));
        yard.make(1, 1, 5);
        yard.set(0, 1, 1);
        yard.get(0, 1, 2);
        yard.copy(2, 3);
        yard.watch(0, 3);
        yard.revive(0, 4);
        yard.write(4, yard.about(1, 0) + yard.watched(0) + yard.field(0, 1) + yard.reach(0));
        yard.clear(yard.same(3, 4) ? 0 : 1);
        yard.collect(3, 77);
    }

    private void staticFields(Class<?> one) {
        for (Field field : one.getDeclaredFields()) {
            int modifiers = field.getModifiers();
            if (Modifier.isStatic(modifiers)) {
                boolean constant = Modifier.isFinal(modifiers)
                    && CONSTANTS.contains(field.getType());
                checks.due("rule 5: " + field + " is a constant", constant, true);
            }
        }
    }

    private void library(Class<?> one) throws IOException {
        for (String member : foreignMembers(one)) {
            checks.due("rule 4: " + member + " in " + one, LIBRARY.contains(member), true);
        }
    }

    /** What a class uses of others, by its constant pool (the JVM's specification, 4.4). */
    private static Set<String> foreignMembers(Class<?> one) throws IOException {
        try (InputStream file = one.getResourceAsStream("/" + one.getName() + ".class");
                DataInputStream in = new DataInputStream(file)) {
            in.skipNBytes(8);
            int count = in.readUnsignedShort();
            int[][] entries = new int[count][];
            String[] texts = new String[count];
            for (int i = 1; i < count; i++) {
                int tag = in.readUnsignedByte();
                entries[i] = new int[] {tag, 0, 0};
                if (tag == 1) {
                    texts[i] = in.readUTF();
                } else {
                    readEntry(in, entries[i]);
                    // Longs and doubles take two places of the pool.
                    i += tag == 5 || tag == 6 ? 1 : 0;
                }
            }
            return membersOf(entries, texts);
        }
    }

    private static void readEntry(DataInputStream in, int[] entry) throws IOException {
        switch (entry[0]) {
            case 3, 4 -> in.skipNBytes(4);
            case 5, 6 -> in.skipNBytes(8);
            case 7, 8, 16, 19, 20 -> entry[1] = in.readUnsignedShort();
            case 9, 10, 11, 12, 17, 18 -> {
                entry[1] = in.readUnsignedShort();
                entry[2] = in.readUnsignedShort();
            }
            case 15 -> in.skipNBytes(3);
            default -> throw new IOException("unknown tag " + entry[0]);
        }
    }

    /** Fields and methods (tags 9, 10, 11) by name; what is linked at run time (17, 18) as such. */
    private static Set<String> membersOf(int[][] entries, String[] texts) {
        Set<String> members = new TreeSet<>();
        for (int[] entry : entries) {
            int tag = entry == null ? 0 : entry[0];
            if (tag == 17 || tag == 18) {
                members.add("a call that is linked at run time (a lambda or texts joined by +)");
            } else if (tag >= 9 && tag <= 11) {
                String owner = texts[entries[entry[1]][1]];
                String name = texts[entries[entry[2]][1]];
                if (!owner.startsWith("ForwardYard")) {
                    members.add(owner + "." + name);
                }
            }
        }
        return members;
    }
}
