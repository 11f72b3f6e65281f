import java.lang.reflect.Constructor;
import java.lang.reflect.Field;
import java.lang.reflect.Method;
import java.lang.reflect.Modifier;
import java.nio.charset.StandardCharsets;
import java.nio.file.Files;
import java.nio.file.Path;
import java.util.Set;
import java.util.TreeSet;
import java.util.regex.Matcher;
import java.util.regex.Pattern;

/** The public face, word for word, and what LANGUAGE.md forbids that a text search can tell. */
final class FacePromises {
    private static final String[] FACE = {
        "count(int)int", "forest(int,int,int)int", "deer(int,int)int", "feed(int,int,int,int,int,int)int",
        "text()int", "force(int)int", "asks(int,int,int)int", "hunter(int,int,int)int", "friends(int,int,int)int",
        "put(int,int,int)int", "told(int,int)int", "hits(int,int)int", "meet(int,int,int)int",
        "present(int,int,int)int", "circle(int,int)int", "way(int,int,int)int", "shoot(int,int)int",
        "aims(int,int)int", "season(int,int,int)int", "hunt(int,int)int", "ball(int)int", "safest(int)int",
        "prize(int,int)int", "society(int)long", "judge(int,int,int)int", "kinds(int,int,int,int)int",
        "turned(int,int,int)int", "honours(int,int,int,int)int", "whose(int,int)int", "laws(int,int,int)int",
        "film(int,int,int)int", "drawn(int,int,int)int", "odds(int,int,int,int)long", "image()int", "back()int",
        "sheet(int,int,int)int", "cell(int,int,int)int", "copy(int,int,int,int,int)int",
        "huntersBy(int,int,int,int)int", "taken(int,int)int",
    };
    private static final String[] FORBIDDEN = {
        "throw", "throws", "try", "catch", "synchronized", "assert", "import", "package", "goto", "enum\\s+class",
        "->", "::", "equals", "hashCode", "toString", "Object", "Exact\\b", "System\\.(?!arraycopy)", "@",
        "double", "float",
    };

    private FacePromises() {
    }

    static void run(Path source) throws Exception {
        constants();
        members();
        privateNames();
        text(source);
    }

    private static void constants() {
        Check.due("face: NONE", HuntersIntroduced.NONE, -1);
        Check.due("face: BAD", HuntersIntroduced.BAD, -2);
        Check.due("face: STATE", HuntersIntroduced.STATE, -3);
        Check.due("face: FULL", HuntersIntroduced.FULL, -4);
        Check.due("face: NO", HuntersIntroduced.NO, -4611686018427387904L);
    }

    private static String told(Method m) {
        StringBuilder b = new StringBuilder(m.getName()).append('(');
        for (Class<?> c : m.getParameterTypes()) {
            b.append(b.charAt(b.length() - 1) == '(' ? "" : ",").append(c.getSimpleName());
        }
        return b.append(')').append(m.getReturnType().getSimpleName()).toString();
    }

    private static void members() {
        Set<String> methods = new TreeSet<>();
        for (Method m : HuntersIntroduced.class.getDeclaredMethods()) {
            if (!Modifier.isPrivate(m.getModifiers()) && !m.isSynthetic()) {
                methods.add(told(m));
                Check.so("face: public " + m, Modifier.isPublic(m.getModifiers()));
            }
        }
        Check.so("face: methods " + methods, methods.equals(new TreeSet<>(Set.of(FACE))));
        for (Field f : HuntersIntroduced.class.getDeclaredFields()) {
            boolean isConstant = Set.of("NONE", "BAD", "STATE", "FULL", "NO").contains(f.getName());
            Check.so("face: field " + f, isConstant == !Modifier.isPrivate(f.getModifiers()));
        }
        Constructor<?>[] all = HuntersIntroduced.class.getDeclaredConstructors();
        Check.so("face: constructor", all.length == 1 && Modifier.isPublic(all[0].getModifiers()));
        Check.so("face: final", Modifier.isFinal(HuntersIntroduced.class.getModifiers()));
    }

    private static void privateNames() {
        Set<String> faces = new TreeSet<>();
        for (String f : FACE) {
            faces.add(f.substring(0, f.indexOf('(')));
        }
        for (Class<?> inside : HuntersIntroduced.class.getDeclaredClasses()) {
            Check.so("face: static " + inside, Modifier.isStatic(inside.getModifiers()));
            for (Method m : inside.getDeclaredMethods()) {
                Check.so("face: name of a public one: " + m, !faces.contains(m.getName()));
            }
        }
        for (Method m : HuntersIntroduced.class.getDeclaredMethods()) {
            boolean isPublic = Modifier.isPublic(m.getModifiers());
            Check.so("face: name of a public one: " + m, isPublic == faces.contains(m.getName()));
        }
    }

    private static void text(Path source) throws Exception {
        String all = Files.readString(source, StandardCharsets.ISO_8859_1);
        String code = all.replaceAll("(?s)/\\*.*?\\*/", "").replaceAll("//[^\n]*", "")
            .replaceAll("\"[^\"\n]*\"", "\"\"");
        for (String word : FORBIDDEN) {
            String of = Character.isLetter(word.charAt(0)) ? "\\b" + word : word;
            of += Character.isLetter(word.charAt(word.length() - 1)) ? "\\b" : "";
            Matcher m = Pattern.compile(of).matcher(code);
            Check.so("language: " + word, !m.find());
        }
        for (int i = 0; i < all.length(); i++) {
            if (all.charAt(i) > 126) {
                Check.so("language: sign " + (int) all.charAt(i), false);
            }
        }
        Check.so("language: read", all.contains("public final class HuntersIntroduced"));
    }
}
