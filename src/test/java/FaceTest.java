import java.io.IOException;
import java.lang.management.ManagementFactory;
import java.lang.reflect.Constructor;
import java.lang.reflect.Field;
import java.lang.reflect.InvocationTargetException;
import java.lang.reflect.Method;
import java.lang.reflect.Modifier;
import java.nio.charset.StandardCharsets;
import java.nio.file.Files;
import java.nio.file.Path;
import java.util.HashSet;
import java.util.Set;
import java.util.TreeSet;

/** The public face, wrong arguments everywhere, the room that calls take, and rules of LANGUAGE.md. */
public final class FaceTest {
    private static final Due DUE = new Due("FaceTest");
    private static final Path SOURCE = Path.of("src/main/java/MapSheets.java");
    private static final String[] METHODS = {
        "grid/2", "set/2", "show/4", "erase/3", "mean/3", "sign/3", "meaning/2", "sheet/2", "count/1", "undo/0",
        "edge/2", "edgeAt/2", "quarrel/3", "agree/1", "release/1", "settle/2", "ratio/1", "publish/1", "scale/2",
        "stretched/2", "type/1", "clearText/0", "fault/0", "read/1"};
    private static final int[] ARGUMENTS = {
        Integer.MIN_VALUE, -1, 0, 1, 2, 5, 6, 9, 10, 59, 126, 1 << 28, Integer.MAX_VALUE};

    public static void main(String[] args) throws Exception {
        theFaceIsAllThatIsSeen();
        theConstants();
        noCallThrows();
        callsMakeNoObjects();
        theSourceKeepsToTheRules();
        DUE.finish();
    }

    private static void theFaceIsAllThatIsSeen() {
        DUE.holds("public and final", Modifier.isPublic(MapSheets.class.getModifiers())
            && Modifier.isFinal(MapSheets.class.getModifiers()));
        Set<String> due = new TreeSet<>(Set.of(METHODS));
        Set<String> faceNames = new HashSet<>();
        for (String method : METHODS) {
            faceNames.add(method.substring(0, method.indexOf('/')));
        }
        Set<String> seen = new TreeSet<>();
        for (Method method : MapSheets.class.getDeclaredMethods()) {
            boolean isPrivate = Modifier.isPrivate(method.getModifiers());
            if (!isPrivate) {
                DUE.holds(method + " is of the face", Modifier.isPublic(method.getModifiers())
                    && !Modifier.isStatic(method.getModifiers()) && method.getReturnType() == int.class);
                seen.add(method.getName() + "/" + method.getParameterCount());
            } else {
                DUE.holds(method + " has a name of its own", !faceNames.contains(method.getName()));
            }
        }
        DUE.holds("the methods are " + seen, seen.equals(due));
        Constructor<?>[] constructors = MapSheets.class.getDeclaredConstructors();
        DUE.holds("one public constructor", constructors.length == 1
            && Modifier.isPublic(constructors[0].getModifiers()) && constructors[0].getParameterCount() == 0);
        int constants = 0;
        for (Field field : MapSheets.class.getDeclaredFields()) {
            int modifiers = field.getModifiers();
            DUE.holds(field + " is private or a public constant",
                Modifier.isPrivate(modifiers) || Modifier.isPublic(modifiers));
            DUE.holds(field + " is final", Modifier.isFinal(modifiers));
            constants += Modifier.isPublic(modifiers) ? 1 : 0;
        }
        DUE.same("public constants", constants, 4);
    }

    private static void theConstants() {
        DUE.same("INVALID_ARGUMENT", MapSheets.INVALID_ARGUMENT, -1);
        DUE.same("NOT_POSSIBLE", MapSheets.NOT_POSSIBLE, -2);
        DUE.same("LIMIT_REACHED", MapSheets.LIMIT_REACHED, -3);
        DUE.same("NOT_FOUND", MapSheets.NOT_FOUND, -4);
    }

    /** Every call with every row of the arguments above, on objects in several states. */
    private static void noCallThrows() throws IllegalAccessException {
        for (Method method : MapSheets.class.getDeclaredMethods()) {
            if (!Modifier.isPublic(method.getModifiers())) {
                continue;
            }
            int count = method.getParameterCount();
            int rows = 1;
            for (int i = 0; i < count; i++) {
                rows *= ARGUMENTS.length;
            }
            for (int state = 0; state < 3; state++) {
                MapSheets x = inState(state);
                for (int row = 0; row < rows; row++) {
                    callsWithoutThrowing(x, method, argumentsOf(row, count));
                }
            }
        }
    }

    private static MapSheets inState(int state) {
        MapSheets x = new MapSheets();
        if (state > 0) {
            x.grid(state == 1 ? 1 : 6, state == 1 ? 1 : 6);
            x.show(0, 1, 0, 0);
            x.agree(5);
            x.type('w');
            x.type('0');
            x.type('-');
            x.type(';');
        }
        return x;
    }

    private static Object[] argumentsOf(int row, int count) {
        Object[] arguments = new Object[count];
        int rest = row;
        for (int i = 0; i < count; i++) {
            arguments[i] = ARGUMENTS[rest % ARGUMENTS.length];
            rest /= ARGUMENTS.length;
        }
        return arguments;
    }

    private static void callsWithoutThrowing(MapSheets x, Method method, Object[] arguments)
            throws IllegalAccessException {
        boolean returned;
        try {
            method.invoke(x, arguments);
            returned = true;
        } catch (InvocationTargetException thrown) {
            returned = false;
        }
        DUE.holds(method + " returns for " + java.util.Arrays.toString(arguments), returned);
    }

    /** LANGUAGE.md counts what a run makes, so the rows are made once, by the constructor. */
    private static void callsMakeNoObjects() {
        if (!(ManagementFactory.getThreadMXBean() instanceof com.sun.management.ThreadMXBean bean)) {
            return;
        }
        MapSheets x = new MapSheets();
        long before = bean.getCurrentThreadAllocatedBytes();
        for (int i = 0; i < 10000; i++) {
            x.grid(6, 6);
            x.show(0, 1, i % 10, 0);
            x.settle(0, 0);
            x.agree(0);
            x.mean(0, 0, 1);
            x.type('n');
            x.read(0);
            x.fault();
            x.clearText();
            x.read(0);
            x.scale(0, 1 + i);
            x.ratio(0);
            x.count(6);
            x.count(7);
            x.count(10);
            x.sheet(7, 9);
            x.quarrel(0, 0, 2);
            x.release(0);
            x.undo();
        }
        long made = bean.getCurrentThreadAllocatedBytes() - before;
        DUE.holds("bytes made by 190000 calls: " + made, made < 100000);
    }

    private static void theSourceKeepsToTheRules() throws IOException {
        String source = Files.readString(SOURCE, StandardCharsets.ISO_8859_1);
        boolean ascii = true;
        for (int i = 0; i < source.length(); i++) {
            ascii &= source.charAt(i) < 128;
        }
        DUE.holds("signs 1 to 127", ascii);
        String code = source.replaceAll("(?s)/\\*.*?\\*/", " ").replaceAll("//[^\n]*", " ");
        String[] leftOut = {"->", "::", "Float.", "Double.", "throw ", "try ", "catch", "finally", "package ",
            "System.out", "nanoTime", "Random", "Thread", "synchronized", "assert ", "Exact(", "static {",
            "protected ", "var ", "Object "};
        for (String word : leftOut) {
            DUE.holds("'" + word + "' is left out", !code.contains(word));
        }
        String imports = code.replaceAll("(?s)public final class.*", "").trim();
        DUE.holds("imports are " + imports, imports.equals("import java.util.Arrays;"));
    }
}
