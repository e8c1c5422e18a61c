import java.io.IOException;
import java.lang.reflect.Constructor;
import java.lang.reflect.Field;
import java.lang.reflect.Method;
import java.lang.reflect.Modifier;
import java.nio.file.Files;
import java.nio.file.Path;
import java.util.ArrayList;
import java.util.List;
import java.util.Set;
import java.util.TreeSet;
import java.util.regex.Matcher;
import java.util.regex.Pattern;

/** The rules of LANGUAGE.md that can be seen without running the class; its argument is the project's folder. */
public final class SourceTest {
    private static final Set<String> FACE = Set.of("block", "window", "delay", "size", "tries", "feed", "end", "text", "fault",
        "by", "open", "cancel", "day", "played", "years", "undo", "of", "claims", "gaps", "come", "out", "flight", "timer", "is",
        "seen", "until", "book", "foretold", "till", "ideal", "whole", "spans", "span", "within", "pieces", "piece", "join",
        "less", "longest", "next", "round", "rings", "odds", "resent", "idle", "live", "said", "whose", "loses", "waits",
        "soonest", "busiest", "honest", "ledger", "image", "back", "about");
    private static final int MOST_CLASSES = 12;
    private static final int MOST_FIELDS = 20;
    private static final int MOST_PARAMETERS = 7;
    private static final int MOST_LINES = 60;

    private SourceTest() {
    }

    public static void main(String[] args) throws IOException {
        Check.at("LANGUAGE.md");
        face();
        Class<?>[] inside = LongCarrier.class.getDeclaredClasses();
        Check.due("rule 11: classes", inside.length < MOST_CLASSES, true);
        checkClass(LongCarrier.class);
        for (Class<?> type : inside) {
            int modifiers = type.getModifiers();
            boolean kept = Modifier.isStatic(modifiers) && !Modifier.isPublic(modifiers) && !Modifier.isProtected(modifiers);
            Check.due("rule 2: " + type, kept, true);
            Check.due("rule 2: none deeper in " + type, type.getDeclaredClasses().length, 0);
            checkClass(type);
        }
        String source = Files.readString(Path.of(args.length == 0 ? "." : args[0], "src/main/java/LongCarrier.java"));
        words(withoutTexts(source));
        methods(source);
        Check.close();
    }

    private static void face() {
        Set<String> found = new TreeSet<>();
        for (Method method : LongCarrier.class.getDeclaredMethods()) {
            if (Modifier.isPublic(method.getModifiers())) {
                found.add(method.getName());
                Check.due("rule 1: " + method + " is no class method", Modifier.isStatic(method.getModifiers()), false);
            } else {
                Check.due("rule 1: " + method + " is private", Modifier.isPrivate(method.getModifiers()), true);
            }
        }
        Check.due("rule 1: the face", found.equals(new TreeSet<>(FACE)), true);
        Check.due("rule 1: final", Modifier.isFinal(LongCarrier.class.getModifiers()), true);
        Constructor<?>[] constructors = LongCarrier.class.getDeclaredConstructors();
        Check.due("rule 1: one constructor", constructors.length == 1 && constructors[0].getParameterCount() == 0, true);
        for (Field field : LongCarrier.class.getDeclaredFields()) {
            boolean none = field.getName().equals("NONE") && Modifier.isPublic(field.getModifiers());
            Check.due("rule 1: " + field, none || Modifier.isPrivate(field.getModifiers()), true);
        }
    }

    private static void checkClass(Class<?> type) {
        int fields = 0;
        for (Field field : type.getDeclaredFields()) {
            boolean constant = Modifier.isStatic(field.getModifiers());
            Check.due("rule 5: " + field, !constant || Modifier.isFinal(field.getModifiers()), true);
            fields += constant ? 0 : 1;
        }
        Check.due("rule 11: fields of " + type, fields <= MOST_FIELDS, true);
        for (Method method : type.getDeclaredMethods()) {
            Check.due("rule 11: parameters of " + method, method.getParameterCount() <= MOST_PARAMETERS, true);
            boolean own = type == LongCarrier.class && Modifier.isPublic(method.getModifiers());
            Check.due("rule 1: the name of " + method, own || !FACE.contains(method.getName()), true);
        }
    }

    private static String withoutTexts(String source) {
        String bare = source.replaceAll("(?s)/\\*.*?\\*/", " ").replaceAll("//[^\n]*", " ");
        return bare.replaceAll("\"(\\\\.|[^\"\\\\])*\"", "TEXT");
    }

    private static void words(String bare) {
        String[] never = {"\\bthrow\\b", "\\bthrows\\b", "\\btry\\b", "\\bcatch\\b", "\\bsynchronized\\b", "\\bassert\\b", "->",
            "::", "\\bstatic\\s*\\{", "Exact\\s*\\(", "\\bpackage\\b", "\\bthread\\b", "\\bThread\\b", "\\bRandom\\b",
            "currentTimeMillis", "nanoTime", "TEXT\\s*\\+", "\\+\\s*TEXT", "\\bNaN\\b", "while\\s*\\(\\s*true", "for\\s*\\(\\s*;"};
        for (String word : never) {
            Check.due("never " + word, Pattern.compile(word).matcher(bare).find(), false);
        }
        Matcher imports = Pattern.compile("import\\s+([\\w.]+);").matcher(bare);
        while (imports.find()) {
            Check.due("rule 4: " + imports.group(1), imports.group(1).equals("java.util.Arrays"), true);
        }
    }

    private static void methods(String source) {
        List<String> lines = new ArrayList<>(List.of(source.split("\n")));
        Pattern head = Pattern.compile("^( {4}| {8})(?!private static final|public static final|static final)\\S.*\\) \\{$");
        for (int i = 0; i < lines.size(); i++) {
            Matcher matcher = head.matcher(lines.get(i));
            if (matcher.matches()) {
                int end = lines.subList(i, lines.size()).indexOf(matcher.group(1) + "}");
                Check.due("rule 11: lines of " + lines.get(i).trim(), end <= MOST_LINES, true);
            }
        }
    }
}
