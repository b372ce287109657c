import java.io.IOException;
import java.lang.reflect.Constructor;
import java.lang.reflect.Field;
import java.lang.reflect.Method;
import java.lang.reflect.Modifier;
import java.nio.file.Files;
import java.nio.file.Path;
import java.util.Set;
import java.util.TreeSet;
import java.util.regex.Matcher;
import java.util.regex.Pattern;

/** The public face, and what can be seen from outside of the rules in LANGUAGE.md. */
public final class FaceTest {
    private static final String[] METHODS = {
        "append(int)", "clearText()", "errorPosition()", "load()", "blockCount()", "size(int)",
        "successor(int,int)", "edgeCount(int,int)", "executions(int)", "blockAt(int)", "hotCount()",
        "cost()", "codeSize()", "address(int)", "branchBytes(int)", "edgeCost(int,int)",
        "chainHead(int)", "optimalCost()", "bestRotation(int,int)", "orderByChains()",
        "orderOptimally()", "swap(int,int)", "rotate(int,int)", "split(int)", "bypass(int)",
        "setCount(int,int,int)", "setAlignment(int)", "undo()", "runScript(int,long)",
        "execute(long,int)", "save(int)", "restore(int)"};
    private static final String[] BANNED = {
        "throw", "throws", "try", "catch", "synchronized", "assert", "import", "package", "\\w*Exact",
        "->", "::", "hashCode", "toString", "double", "float", "System.out", "System.nanoTime",
        "volatile", "native", "transient", "protected"};
    /** Of what rule 4 of LANGUAGE.md lists, the names that a class name stands before. */
    private static final Set<String> LIBRARY = Set.of(
        "System.arraycopy", "Arrays.copyOf", "Arrays.copyOfRange", "Arrays.fill", "List.of",
        "Integer.bitCount", "Integer.compare", "Long.bitCount", "Long.compare",
        "Math.abs", "Math.floorDiv", "Math.floorMod", "Math.max", "Math.min");
    private static final int MOST_LINES = 60;

    public static void main(String[] args) throws IOException {
        constants();
        theClass();
        methods();
        members(BlockLayout.class.getDeclaredClasses());
        if (args.length > 0) {
            String source = Files.readString(Path.of(args[0]));
            words(source);
            library(codeOf(source));
            lengths(source);
        }
        Check.end();
    }

    private static void constants() {
        Check.due("NO_SUCH_INDEX", BlockLayout.NO_SUCH_INDEX, -1);
        Check.due("BAD_VALUE", BlockLayout.BAD_VALUE, -2);
        Check.due("NOT_POSSIBLE", BlockLayout.NOT_POSSIBLE, -3);
        Check.due("FULL", BlockLayout.FULL, -4);
        Check.due("NONE", BlockLayout.NONE, -9);
        for (Field field : BlockLayout.class.getDeclaredFields()) {
            boolean isFace = Set.of("NO_SUCH_INDEX", "BAD_VALUE", "NOT_POSSIBLE", "FULL", "NONE").contains(field.getName());
            boolean isPublic = Modifier.isPublic(field.getModifiers());
            Check.isTrue("field " + field.getName(), isFace ? isPublic : Modifier.isPrivate(field.getModifiers()));
        }
    }

    private static void theClass() {
        int modifiers = BlockLayout.class.getModifiers();
        Check.isTrue("public and final", Modifier.isPublic(modifiers) && Modifier.isFinal(modifiers));
        Constructor<?>[] constructors = BlockLayout.class.getDeclaredConstructors();
        Check.due("one constructor", constructors.length, 1);
        Check.isTrue("it is public", Modifier.isPublic(constructors[0].getModifiers()));
        Check.due("it takes nothing", constructors[0].getParameterCount(), 0);
    }

    private static void methods() {
        Set<String> found = new TreeSet<>();
        for (Method method : BlockLayout.class.getDeclaredMethods()) {
            if (Modifier.isPrivate(method.getModifiers())) {
                Check.isTrue("private " + method.getName(), !isFaceName(method.getName()));
                continue;
            }
            StringBuilder types = new StringBuilder();
            for (Class<?> type : method.getParameterTypes()) {
                types.append(types.length() == 0 ? "" : ",").append(type.getName());
            }
            found.add(method.getName() + "(" + types + ")");
            boolean fits = method.getReturnType() == int.class && !Modifier.isStatic(method.getModifiers())
                && Modifier.isPublic(method.getModifiers());
            Check.isTrue("public int " + method.getName(), fits);
        }
        Check.due("methods", found.toString(), new TreeSet<>(Set.of(METHODS)).toString());
    }

    private static boolean isFaceName(String name) {
        for (String method : METHODS) {
            if (method.startsWith(name + "(")) {
                return true;
            }
        }
        return false;
    }

    private static void members(Class<?>[] inside) {
        Check.isTrue("at most twelve classes", inside.length < 12);
        for (Class<?> type : inside) {
            Check.isTrue(type.getName() + " is static", Modifier.isStatic(type.getModifiers()));
            Check.isTrue(type.getName() + " is not public", !Modifier.isPublic(type.getModifiers()));
            for (Method method : type.getDeclaredMethods()) {
                Check.isTrue(method + " has a name of its own", !isFaceName(method.getName()));
                Check.isTrue(method + " takes at most seven", method.getParameterCount() <= 7);
            }
            for (Field field : type.getDeclaredFields()) {
                int modifiers = field.getModifiers();
                Check.isTrue(field + " is no static state", !Modifier.isStatic(modifiers) || Modifier.isFinal(modifiers));
            }
        }
    }

    private static String codeOf(String source) {
        return source.replaceAll("(?s)/\\*.*?\\*/", " ").replaceAll("//[^\n]*", " ");
    }

    /** A name of the library is one that no class of the file bears; its constants are not listed either. */
    private static void library(String code) {
        Set<String> own = new TreeSet<>(Set.of("BlockLayout"));
        for (Class<?> type : BlockLayout.class.getDeclaredClasses()) {
            own.add(type.getSimpleName());
        }
        Matcher use = Pattern.compile("\\b([A-Z][a-z]\\w*)\\.(\\w+)").matcher(code);
        while (use.find()) {
            boolean isListed = own.contains(use.group(1)) || LIBRARY.contains(use.group());
            Check.isTrue("LANGUAGE.md lists " + use.group(), isListed);
        }
    }

    /** Methods stand four or eight signs from the margin, and so do their last lines. */
    private static void lengths(String source) {
        String[] lines = source.split("\n");
        Pattern head = Pattern.compile("( {4}| {8})\\w[^=;]*\\) \\{");
        for (int i = 0; i < lines.length; i++) {
            Matcher method = head.matcher(lines[i]);
            if (!method.matches() || lines[i].matches("\\s*(if|for|while|switch|do|else)\\b.*")) {
                continue;
            }
            int end = i;
            while (end < lines.length && !lines[end].equals(method.group(1) + "}")) {
                end++;
            }
            Check.isTrue(lines[i].trim() + " is short", end - i < MOST_LINES);
        }
    }

    private static void words(String source) {
        String code = codeOf(source);
        for (String word : BANNED) {
            boolean isWord = word.charAt(0) != '-' && word.charAt(0) != ':';
            String pattern = isWord ? "(?s).*\\b" + word.replace(".", "\\.") + "\\b.*" : "(?s).*" + word + ".*";
            Check.isTrue("no " + word, !code.matches(pattern));
        }
        for (String line : source.split("\n")) {
            Check.isTrue("only plain signs: " + line, line.chars().allMatch(c -> c >= 32 && c < 127));
        }
    }
}
