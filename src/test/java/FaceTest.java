import java.lang.reflect.Constructor;
import java.lang.reflect.Field;
import java.lang.reflect.Method;
import java.lang.reflect.Modifier;
import java.nio.file.Files;
import java.nio.file.Path;
import java.util.Set;
import java.util.TreeSet;
import java.util.regex.Matcher;
import java.util.regex.Pattern;

/** The document's face, no more and no less, and those rules of the language that can be seen in the text. */
public final class FaceTest {
    private static final Check CHECK = new Check("FaceTest");
    private static final String[] FACE = {
        "int write(int)", "int erase()", "int fault()", "int court()", "int thing(int,int)", "int as(int,int)",
        "int floor(int,int)", "int hand(int)", "int touch(int)", "int by(int,int)", "int eat(int,int)",
        "int bathe()", "int idle()", "int undo()", "int keep(int)", "int back(int)", "int town(int,int)",
        "int put(int)", "int wipe()", "int goes(int)", "int task(int)", "int drop()", "int plan(int)",
        "int price(int)", "int sell(int)", "int thief(int)", "int look(int,int,int)", "int forget()",
        "int fit(int)", "int baths(int,int)", "long slips(int,int,int,int)", "int count(int)"};

    public static void main(String[] args) throws Exception {
        constants();
        methods();
        nested();
        words();
        CHECK.end();
    }

    private static void constants() throws Exception {
        String[] names = {"NONE", "UNKNOWN", "OUTSIDE", "NOT", "FULL"};
        for (int i = 0; i < names.length; i++) {
            CHECK.due(names[i], GoldTouch.class.getField(names[i]).getInt(null), -1 - i);
        }
        for (Field f : GoldTouch.class.getDeclaredFields()) {
            boolean told = Set.of(names).contains(f.getName());
            CHECK.holds("field " + f, told || Modifier.isPrivate(f.getModifiers()));
            CHECK.holds("static is final: " + f,
                !Modifier.isStatic(f.getModifiers()) || Modifier.isFinal(f.getModifiers()));
        }
        CHECK.holds("final", Modifier.isFinal(GoldTouch.class.getModifiers()));
    }

    private static void methods() {
        Set<String> face = new TreeSet<>();
        for (Method m : GoldTouch.class.getDeclaredMethods()) {
            if (m.isSynthetic()) {
                continue;
            }
            if (Modifier.isPublic(m.getModifiers())) {
                face.add(m.getReturnType() + " " + m.getName() + types(m));
            } else {
                CHECK.holds("private: " + m, Modifier.isPrivate(m.getModifiers()));
            }
        }
        CHECK.holds("the face is " + face, face.equals(new TreeSet<>(Set.of(FACE))));
        Constructor<?>[] made = GoldTouch.class.getDeclaredConstructors();
        CHECK.holds("one constructor", made.length == 1 && made[0].getParameterCount() == 0
            && Modifier.isPublic(made[0].getModifiers()));
    }

    private static String types(Method m) {
        StringBuilder all = new StringBuilder("(");
        for (Class<?> c : m.getParameterTypes()) {
            all.append(all.length() > 1 ? "," : "").append(c);
        }
        return all.append(')').toString();
    }

    private static void nested() {
        Set<String> told = new TreeSet<>();
        for (String call : FACE) {
            told.add(call.substring(call.indexOf(' ') + 1, call.indexOf('(')));
        }
        for (Class<?> c : GoldTouch.class.getDeclaredClasses()) {
            CHECK.holds("static, not public: " + c,
                Modifier.isStatic(c.getModifiers()) && !Modifier.isPublic(c.getModifiers()));
            for (Method m : c.getDeclaredMethods()) {
                CHECK.holds("a name of its own: " + m, !told.contains(m.getName()));
                CHECK.holds("seven parameters at most: " + m, m.getParameterCount() <= 7);
            }
        }
    }

    private static void words() throws Exception {
        String text = Files.readString(Path.of("src/main/java/GoldTouch.java"));
        String code = text.replaceAll("(?s)/\\*.*?\\*/", " ").replaceAll("//[^\n]*", " ").replaceAll("\"[^\"\n]*\"", " ");
        Matcher wrong = Pattern.compile("\\b(throw|throws|try|catch|synchronized|assert|package|import|protected)\\b"
            + "|->|::|Exact\\b").matcher(code);
        while (wrong.find()) {
            CHECK.holds("not in the language: " + wrong.group(), false);
        }
        CHECK.due("'public' stands once for each of the face", code.split("\\bpublic\\b", -1).length - 1, FACE.length + 3);
    }
}
