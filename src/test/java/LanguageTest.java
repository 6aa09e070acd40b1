import java.io.IOException;
import java.lang.reflect.Constructor;
import java.lang.reflect.Field;
import java.lang.reflect.Method;
import java.lang.reflect.Modifier;
import java.nio.file.Files;
import java.nio.file.Path;
import java.util.Arrays;
import java.util.Set;
import java.util.TreeSet;
import java.util.regex.Matcher;
import java.util.regex.Pattern;

/** The document's public face, and what of ../shared/LANGUAGE.md can be seen by looking. The first argument is the
 *  source's path. */
public final class LanguageTest {
    private static final String FACE = "act(int,int,int):int book(int,int):int change():int count(int):int ends():int "
            + "evening():int feed(int):int from():int game(int,int):int gone(int):int had(int,int):int heavy(int):int "
            + "image():int item(int,int,long):int judge(int,int):int longest():int looked():int mean(int,int):long "
            + "mute(int):int needs(int,int):int odds(int,int):long of(int,int):int on(int,int):int "
            + "person(int,int,int,int):int read(int,int):long row(int,int,int):int see(int,int):int set(int,int,int):int "
            + "shift(int,int,int,int,int):int stand(int,int,int):int step():int taken(int,int):int "
            + "tape(int,int,int):int told(int):int trace(int):int undo():int weight(int):int with(int):int";

    private static final String NOWHERE = "throw try catch synchronized assert record enum finally throws native "
            + "System\\.(?!arraycopy) Object Thread Random .*Exact\\b -> :: static\\s*\\{ @ protected instanceof";

    private static int wrong = 0;

    public static void main(String[] args) throws IOException {
        face();
        classes();
        source(Files.readString(Path.of(args[0])));
        System.out.println(wrong == 0 ? "the language is kept to" : wrong + " faults");
        if (wrong != 0) {
            System.exit(1);
        }
    }

    private static void must(boolean holds, String what) {
        if (!holds) {
            wrong++;
            System.out.println("not so: " + what);
        }
    }

    private static boolean isOpen(int modifiers) {
        return !Modifier.isPrivate(modifiers);
    }

    private static void face() {
        Class<?> face = LastAtPump.class;
        must(Modifier.isPublic(face.getModifiers()) && Modifier.isFinal(face.getModifiers()), "public and final");
        Set<String> methods = new TreeSet<>();
        for (Method method : face.getDeclaredMethods()) {
            if (isOpen(method.getModifiers())) {
                methods.add(told(method));
                must(Modifier.isPublic(method.getModifiers()) && !Modifier.isStatic(method.getModifiers()),
                        method + " is public");
            }
        }
        must(methods.equals(new TreeSet<>(Arrays.asList(FACE.split(" ")))), "the methods of the face: " + methods);
        Set<String> fields = new TreeSet<>();
        for (Field field : face.getDeclaredFields()) {
            if (isOpen(field.getModifiers())) {
                fields.add(field.getType() + " " + field.getName());
                must(Modifier.isPublic(field.getModifiers()) && Modifier.isStatic(field.getModifiers())
                        && Modifier.isFinal(field.getModifiers()), field + " is a public constant");
            }
        }
        must(fields.equals(Set.of("int NONE", "int BAD", "int STATE", "int FULL", "long NO")), "constants: " + fields);
        Constructor<?>[] made = face.getDeclaredConstructors();
        must(made.length == 1 && made[0].getParameterCount() == 0 && Modifier.isPublic(made[0].getModifiers()),
                "one public constructor of nothing");
        must(LastAtPump.NONE == -1 && LastAtPump.BAD == -2 && LastAtPump.STATE == -3 && LastAtPump.FULL == -4
                && LastAtPump.NO == Long.MIN_VALUE, "the constants");
    }

    private static String told(Method method) {
        StringBuilder told = new StringBuilder(method.getName()).append('(');
        for (Class<?> type : method.getParameterTypes()) {
            told.append(told.charAt(told.length() - 1) == '(' ? "" : ",").append(type);
        }
        return told.append("):").append(method.getReturnType()).toString();
    }

    private static void classes() {
        Set<String> open = new TreeSet<>();
        for (String method : FACE.split(" ")) {
            open.add(method.substring(0, method.indexOf('(')));
        }
        Class<?>[] inside = LastAtPump.class.getDeclaredClasses();
        must(inside.length <= 11, "some twelve classes");
        small(LastAtPump.class);
        for (Class<?> one : inside) {
            must(Modifier.isStatic(one.getModifiers()) && !Modifier.isPublic(one.getModifiers())
                    && !Modifier.isProtected(one.getModifiers()), one + " is static, and private or package-visible");
            must(one.getDeclaredClasses().length == 0, one + " has none inside");
            small(one);
            for (Method method : one.getDeclaredMethods()) {
                must(!open.contains(method.getName()), one + ": no method is named " + method.getName());
            }
        }
        for (Method method : LastAtPump.class.getDeclaredMethods()) {
            must(isOpen(method.getModifiers()) || !open.contains(method.getName()),
                    "no private method is named " + method.getName());
        }
    }

    private static void small(Class<?> one) {
        long fields = Arrays.stream(one.getDeclaredFields()).filter(f -> !Modifier.isStatic(f.getModifiers())).count();
        must(fields <= 20, one + " has some twenty fields");
        for (Field field : one.getDeclaredFields()) {
            must(!Modifier.isStatic(field.getModifiers()) || Modifier.isFinal(field.getModifiers()),
                    field + " is final, if static");
        }
        for (Method method : one.getDeclaredMethods()) {
            must(method.getParameterCount() <= 7, method + " has seven parameters at most");
        }
    }

    private static void source(String source) {
        String code = source.replaceAll("(?s)/\\*.*?\\*/|//[^\n]*", "");
        Matcher imports = Pattern.compile("import\\s+([\\w.* ]+);").matcher(code);
        while (imports.find()) {
            must(imports.group(1).equals("java.util.Arrays"), "import " + imports.group(1));
        }
        for (int at = 0; at < source.length(); at++) {
            must(source.charAt(at) < 128, "signs are 0 to 127, at " + at);
        }
        String bare = code.replaceAll("\"[^\"\n]*\"", "\"\"");
        for (String word : NOWHERE.split(" ")) {
            Pattern pattern = Pattern.compile(Character.isLetter(word.charAt(0)) ? "\\b" + word + "\\b" : word);
            Matcher found = pattern.matcher(bare);
            must(!found.find(), "no " + word);
        }
        must(!bare.matches("(?s).*(\"\"\\s*\\+|\\+\\s*\"\").*"), "no text joined by +");
        must(!bare.matches("(?s).*\\bpackage\\b.*"), "no package");
        longMethods(bare);
    }

    /** A method begins behind 4 or 8 blanks and ends with a } behind as many. */
    private static void longMethods(String code) {
        Matcher method = Pattern.compile("(?m)^( {4}| {8})(?! )[\\w\\[\\]<> ]+\\w\\([^)]*\\) \\{$(?s:.*?)^\\1\\}$")
                .matcher(code);
        int seen = 0;
        while (method.find()) {
            seen++;
            int lines = method.group().split("\n").length;
            must(lines <= 60, lines + " lines: " + method.group().split("\n")[0].trim());
        }
        must(seen > 60, "methods are seen: " + seen);
    }
}
