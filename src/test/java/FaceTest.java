import java.lang.reflect.Constructor;
import java.lang.reflect.Field;
import java.lang.reflect.Method;
import java.lang.reflect.Modifier;
import java.nio.file.Files;
import java.nio.file.Path;
import java.util.Arrays;
import java.util.Set;
import java.util.TreeSet;
import java.util.regex.Matcher;
import java.util.regex.Pattern;

/** The document's face, and those rules of LANGUAGE.md that can be seen from outside or in the text. */
public final class FaceTest {
    private static final String FACE = "anew() back(int) begins(int) behind(int,int) best(int,int) boys() call(int) "
            + "card(int,int) chance(int) count(int) desk(int) disturbs(int) doubt(int,int) drawn(int,int,int) end(int) "
            + "far(int,int) fault(int) feed(int,int,int,int,int) follows(int,int) found() gain(int) goes(int,int,int) "
            + "guess(int) habit(int) hangs(int) hears(int,int) here() house() image(int) later(int,int) likely() "
            + "list(int) lot(int,int,int) man(int,int) meant(int,int,int) one(int) pairs() parts(int) "
            + "paste(int,int,int,int,int) penny(int) period(int) question(int) quiet(int) quietly(int) "
            + "read(int,int,int)long rest() right(int)long room(int,int) round(int) row(int,int,int) shut(int,int,int) "
            + "slate(int,int) slips(int,int) soon(int,int) stop(int) tell(int,int,int) trumpet() two(int,int) undo() "
            + "walks(int,int) way(int,int,int,int) which(int) write(int,int,long) yes(int,int)";

    public static void main(String[] args) throws Exception {
        face();
        hidden();
        nested();
        text(Files.readString(Path.of("src/main/java/CallForBrown.java")));
        Check.finish();
    }

    private static void holds(String rule, boolean is) {
        Check.due(rule, is ? 1 : 0, 1);
    }

    private static void face() {
        Set<String> due = new TreeSet<>(Arrays.asList(FACE.split(" ")));
        Set<String> has = new TreeSet<>();
        for (Method method : CallForBrown.class.getDeclaredMethods()) {
            if (Modifier.isPublic(method.getModifiers())) {
                has.add(signature(method));
                holds(method.getName() + " is not static", !Modifier.isStatic(method.getModifiers()));
            }
        }
        Check.due("methods", has.size(), 64);
        holds("the face is " + has, has.equals(due));
        int modifiers = CallForBrown.class.getModifiers();
        holds("public and final", Modifier.isPublic(modifiers) && Modifier.isFinal(modifiers));
        Constructor<?>[] constructors = CallForBrown.class.getDeclaredConstructors();
        Check.due("constructors", constructors.length, 1);
        holds("a public one without arguments",
                Modifier.isPublic(constructors[0].getModifiers()) && constructors[0].getParameterCount() == 0);
    }

    private static String signature(Method method) {
        StringBuilder s = new StringBuilder(method.getName()).append('(');
        for (Class<?> type : method.getParameterTypes()) {
            s.append(s.charAt(s.length() - 1) == '(' ? "" : ",").append(type.getName());
        }
        return s.append(')').append(method.getReturnType() == int.class ? "" : method.getReturnType().getName()).toString();
    }

    private static void hidden() {
        Set<String> names = new TreeSet<>();
        for (Method method : CallForBrown.class.getDeclaredMethods()) {
            if (Modifier.isPublic(method.getModifiers())) {
                names.add(method.getName());
            }
        }
        for (Method method : CallForBrown.class.getDeclaredMethods()) {
            boolean isPublic = Modifier.isPublic(method.getModifiers());
            holds(method + " is private or of the face", isPublic || Modifier.isPrivate(method.getModifiers()));
            holds(method + " has a name of its own", isPublic || !names.contains(method.getName()));
        }
        for (Field field : CallForBrown.class.getDeclaredFields()) {
            holds(field + " is private", field.getName().equals("NONE") || Modifier.isPrivate(field.getModifiers()));
        }
        for (Class<?> inside : CallForBrown.class.getDeclaredClasses()) {
            for (Method method : inside.getDeclaredMethods()) {
                holds(method + " has a name of its own", !names.contains(method.getName()));
            }
        }
    }

    private static void nested() {
        Class<?>[] classes = CallForBrown.class.getDeclaredClasses();
        holds("at most twelve classes", classes.length + 1 <= 12);
        for (Class<?> inside : classes) {
            int modifiers = inside.getModifiers();
            holds(inside + " is static, not public", Modifier.isStatic(modifiers) && !Modifier.isPublic(modifiers)
                    && !Modifier.isProtected(modifiers));
            fields(inside);
        }
        fields(CallForBrown.class);
    }

    private static void fields(Class<?> type) {
        int own = 0;
        for (Field field : type.getDeclaredFields()) {
            boolean isStatic = Modifier.isStatic(field.getModifiers());
            own += isStatic ? 0 : 1;
            holds(field + ", if static, is final", !isStatic || Modifier.isFinal(field.getModifiers()));
        }
        holds(type + " has at most twenty fields", own <= 20);
        for (Method method : type.getDeclaredMethods()) {
            holds(method + " takes at most seven", method.getParameterCount() <= 7);
        }
    }

    private static void text(String source) {
        String bare = source.replaceAll("(?s)/\\*.*?\\*/", "").replaceAll("//[^\n]*", "").replaceAll("\"[^\"\n]*\"", "\"\"");
        String[] never = {"\\bthrow\\b", "\\bthrows\\b", "\\btry\\b", "\\bcatch\\b", "\\bfinally\\b", "\\bsynchronized\\b",
            "\\bassert\\b", "->", "::", "Exact\\b", "\\bvar\\b", "static\\s*\\{", "\\bpackage\\b", "\\bprotected\\b",
            "\\bThread\\b", "\\bRandom\\b", "currentTimeMillis", "nanoTime", "@"};
        for (String pattern : never) {
            holds("no " + pattern, !Pattern.compile(pattern).matcher(bare).find());
        }
        Matcher system = Pattern.compile("\\bSystem\\.(\\w+)").matcher(bare);
        while (system.find()) {
            holds("System." + system.group(1), system.group(1).equals("arraycopy"));
        }
        Matcher imports = Pattern.compile("\\bimport ([\\w.]+);").matcher(bare);
        while (imports.find()) {
            holds("import " + imports.group(1), imports.group(1).equals("java.util.Arrays"));
        }
        methodsAreShort(source);
    }

    /** A method begins at four or eight blanks and ends with its brace at as many. */
    private static void methodsAreShort(String source) {
        String[] lines = source.split("\n");
        for (int i = 0; i < lines.length; i++) {
            Matcher begin = Pattern.compile("^( {4}| {8})\\w[^=;]*\\) \\{$").matcher(lines[i]);
            if (begin.find()) {
                int last = i;
                while (last < lines.length && !lines[last].equals(begin.group(1) + "}")) {
                    last++;
                }
                holds(lines[i].trim() + " stays short", last - i <= 60);
            }
        }
    }
}
