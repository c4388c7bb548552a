import java.lang.reflect.Constructor;
import java.lang.reflect.Field;
import java.lang.reflect.Method;
import java.lang.reflect.Modifier;
import java.nio.file.Files;
import java.nio.file.Path;
import java.util.Arrays;
import java.util.Set;
import java.util.TreeSet;
import java.util.regex.Matcher;
import java.util.regex.Pattern;

/** The face of the document, and what can be seen of LANGUAGE.md in the source and the compiled classes. */
public final class LanguageTest {
    private static final String[] FACE = {
        "int force(int)", "int lawful(int,int)", "long part(int,int)", "int parts(int,int)", "int proof(int)", "int look(int,int)",
        "int fewest(int,int)", "int counted(int,int)", "int coin(int,int)", "int mint(int,int,int)", "int coins(int,int)",
        "int change(int)", "int third(int)", "int next(int,int)", "int many(int,int)", "int gap(int,int,int)",
        "int feed(int,int)", "int seller()", "int chosen(int,int,int)", "int rent(int,int)", "int tax(int)", "int rounded(int,int)",
        "int shares(int,int,int)", "int debt(int,int)", "int owes(int)", "int judge()", "int round()", "int struck()",
        "int settle(int)", "int looked(int,int,int)", "int undo()", "int redo()", "int body(int)", "int act(int,int,int)",
        "int trace(int)", "int keep(int,int)", "int row(int,int,int)", "int put(int,int,long)", "long element(int,int)",
        "int shift(int,int,int,int,int)", "int taken(int,int)", "int count(int)",
    };
    private static final String[] WORDS = {"throw", "throws", "try", "catch", "finally", "synchronized", "assert", "package",
        "transient", "volatile", "native", "protected", "System\\.(?!arraycopy)", "Math\\.\\w*Exact", "->", "::", "equals",
        "hashCode", "toString", "Object", "Class", "Thread", "Random", "float", "double"};

    public static void main(String[] args) throws Exception {
        face();
        nested();
        source();
        Due.end("LanguageTest");
    }

    private static String told(Method m) {
        StringBuilder told = new StringBuilder(m.getReturnType().getName() + " " + m.getName() + "(");
        for (Class<?> c : m.getParameterTypes()) {
            told.append(told.charAt(told.length() - 1) == '(' ? "" : ",").append(c.getName());
        }
        return told.append(")").toString();
    }

    private static void face() throws Exception {
        Set<String> seen = new TreeSet<>();
        for (Method m : LawfulSums.class.getDeclaredMethods()) {
            if (Modifier.isPublic(m.getModifiers())) {
                seen.add(told(m));
                Due.holds(m + " is no static one", !Modifier.isStatic(m.getModifiers()));
            } else {
                Due.holds(m + " is private", Modifier.isPrivate(m.getModifiers()) || m.isSynthetic());
            }
        }
        Due.holds("the methods of the face: " + seen, seen.equals(new TreeSet<>(Arrays.asList(FACE))));
        Constructor<?>[] made = LawfulSums.class.getDeclaredConstructors();
        Due.holds("one public constructor", made.length == 1 && Modifier.isPublic(made[0].getModifiers()));
        Due.holds("the class is final", Modifier.isFinal(LawfulSums.class.getModifiers()));
        int shown = 0;
        for (Field f : LawfulSums.class.getDeclaredFields()) {
            shown += Modifier.isPublic(f.getModifiers()) ? 1 : 0;
            Due.holds(f + " is public or private", Modifier.isPublic(f.getModifiers()) || Modifier.isPrivate(f.getModifiers()));
        }
        Due.same("public constants", shown, 5);
        int[] constants = {LawfulSums.BAD, LawfulSums.NOT, LawfulSums.FULL, LawfulSums.STATE, LawfulSums.VOID};
        Due.holds("their numbers", Arrays.equals(constants, new int[] {-1, -2, -3, -5, -2000000000}));
    }

    private static void nested() {
        Set<String> names = new TreeSet<>();
        for (String call : FACE) {
            names.add(call.substring(call.indexOf(' ') + 1, call.indexOf('(')));
        }
        Class<?>[] inside = LawfulSums.class.getDeclaredClasses();
        Due.holds("some twelve classes", inside.length + 1 <= 12);
        for (Class<?> c : inside) {
            Due.holds(c + " is static", Modifier.isStatic(c.getModifiers()));
            int fields = 0;
            for (Field f : c.getDeclaredFields()) {
                boolean fixed = Modifier.isStatic(f.getModifiers());
                Due.holds(f + " is final", !fixed || Modifier.isFinal(f.getModifiers()));
                fields += fixed ? 0 : 1;
            }
            Due.holds(c + " has some twenty fields", fields <= 20);
            for (Method m : c.getDeclaredMethods()) {
                Due.holds(m + " has a name of its own", !names.contains(m.getName()));
                Due.holds(m + " has at most seven parameters", m.getParameterCount() <= 7);
            }
        }
    }

    private static void source() throws Exception {
        String all = Files.readString(Path.of("src/main/java/LawfulSums.java"));
        Due.holds("signs 1 to 127 alone", all.chars().allMatch(c -> c > 0 && c < 128));
        String bare = all.replaceAll("(?s)/\\*.*?\\*/", "").replaceAll("//[^\n]*", "");
        for (String word : WORDS) {
            boolean isWord = Character.isLetter(word.charAt(0));
            Matcher found = Pattern.compile(isWord ? "\\b" + word + (word.endsWith(")") ? "" : "\\b") : word).matcher(bare);
            Due.holds("no " + word, !found.find());
        }
        Matcher imports = Pattern.compile("import ([^;]*);").matcher(bare);
        while (imports.find()) {
            Due.holds("import " + imports.group(1), imports.group(1).equals("java.util.Arrays"));
        }
        int from = 0, line = 0;
        for (String text : bare.split("\n")) {
            line++;
            if (text.matches("    (    )?\\S.*\\) \\{")) {
                from = line;
            }
            if (text.matches("    (    )?\\}")) {
                Due.holds("the method that ends in line " + line + " is short", from == 0 || line - from < 60);
                from = 0;
            }
        }
    }
}
