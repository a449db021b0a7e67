import java.lang.reflect.Constructor;
import java.lang.reflect.Field;
import java.lang.reflect.Member;
import java.lang.reflect.Method;
import java.lang.reflect.Modifier;
import java.nio.file.Files;
import java.nio.file.Path;
import java.util.Arrays;
import java.util.Set;
import java.util.TreeSet;
import java.util.regex.Matcher;
import java.util.regex.Pattern;

/** The face of the document and the rules of LANGUAGE.md that can be seen from outside or in the text. */
public final class LanguageTests {
    private static final String[] FACE = {
        "told(int)", "hour(int,int)", "lawAt(int,int)", "value(int,int)", "margin(int,int)", "store(int,int)",
        "room(int,int,int)", "begin(int)", "hold(int)", "worth(int)", "spread(int)", "law(int,int,int,int,int)",
        "drop(int)", "done()", "drift(int)", "undo(int)", "gain(int)", "without(int)", "with(int,int)", "seed(int)",
        "keep(int)", "goBack(int)"};
    private static final String[] CONSTANTS = {"NONE", "UNKNOWN", "OUTSIDE", "NOT", "FULL"};
    private static final String[] FORBIDDEN = {
        "throw", "throws", "try", "catch", "finally", "synchronized", "assert", "package", "import", "native",
        "volatile", "hashCode", "toString", "->", "::", "Exact", "Random", "Thread", "currentTimeMillis", "nanoTime"};
    private static int wrong = 0;

    public static void main(String[] args) throws Exception {
        face();
        if (args.length == 1) text(Files.readString(Path.of(args[0])));
        else expect(false, "the path of the source is wanted");
        if (wrong != 0) System.exit(1);
    }

    private static void expect(boolean holds, String what) {
        if (holds) return;
        wrong++;
        System.out.println("not so: " + what);
    }

    private static void face() {
        Class<?> type = StoreSlopes.class;
        expect(Modifier.isPublic(type.getModifiers()) && Modifier.isFinal(type.getModifiers()), "public and final");
        Set<String> seen = new TreeSet<>();
        Set<String> publicNames = new TreeSet<>();
        for (Method m : type.getDeclaredMethods()) {
            if (isPrivate(m)) continue;
            expect(Modifier.isPublic(m.getModifiers()) && m.getReturnType() == int.class, m + " is of the face");
            seen.add(signature(m));
            publicNames.add(m.getName());
        }
        expect(seen.equals(new TreeSet<>(Arrays.asList(FACE))), "the methods are the document's: " + seen);
        for (Field f : type.getDeclaredFields()) {
            boolean constant = Arrays.asList(CONSTANTS).contains(f.getName());
            expect(constant ? Modifier.isPublic(f.getModifiers()) : isPrivate(f), f + " is private or of the face");
            expect(!Modifier.isStatic(f.getModifiers()) || Modifier.isFinal(f.getModifiers()), f + " is final");
        }
        Constructor<?>[] made = type.getDeclaredConstructors();
        expect(made.length == 1 && made[0].getParameterCount() == 0, "one constructor");
        noSecondBearer(type, publicNames);
        for (Class<?> inside : type.getDeclaredClasses()) {
            expect(Modifier.isStatic(inside.getModifiers()) && !Modifier.isPublic(inside.getModifiers()), inside + " is static");
            expect(inside.getDeclaredFields().length <= 20, inside + " has few fields");
            noSecondBearer(inside, publicNames);
        }
    }

    private static void noSecondBearer(Class<?> type, Set<String> publicNames) {
        for (Method m : type.getDeclaredMethods()) {
            boolean ofFace = Modifier.isPublic(m.getModifiers());
            expect(ofFace || !publicNames.contains(m.getName()), m + " bears a public method's name");
            expect(m.getParameterCount() <= 7, m + " has few parameters");
        }
    }

    private static boolean isPrivate(Member member) {
        return Modifier.isPrivate(member.getModifiers());
    }

    private static String signature(Method m) {
        StringBuilder text = new StringBuilder(m.getName()).append('(');
        for (Class<?> p : m.getParameterTypes()) text.append(text.charAt(text.length() - 1) == '(' ? "" : ",").append(p.getName());
        return text.append(')').toString();
    }

    private static void text(String source) {
        for (char c : source.toCharArray()) expect(c == '\n' || c >= 32 && c < 127, "plain signs alone, not " + (int) c);
        String code = source.replaceAll("(?s)/\\*.*?\\*/", " ").replaceAll("//[^\n]*", " ");
        for (String word : FORBIDDEN) {
            String pattern = Character.isLetter(word.charAt(0)) && !word.equals("Exact") ? "\\b" + word + "\\b" : Pattern.quote(word);
            expect(!Pattern.compile(pattern).matcher(code).find(), "no " + word);
        }
        // Calls make nothing: all rows are made with the object.
        Matcher making = Pattern.compile("(?m)^(.*)\\bnew \\w+").matcher(code);
        while (making.find()) expect(isMadeOnce(making.group(1)), "made once: " + making.group().trim());
    }

    private static boolean isMadeOnce(String ahead) {
        return ahead.contains("final ") || ahead.matches("\\s+\\w+ = ");
    }
}
