import java.io.IOException;
import java.lang.reflect.Constructor;
import java.lang.reflect.Field;
import java.lang.reflect.Method;
import java.lang.reflect.Modifier;
import java.nio.file.Files;
import java.nio.file.Path;
import java.util.ArrayList;
import java.util.Arrays;
import java.util.List;
import java.util.regex.Matcher;
import java.util.regex.Pattern;

/** The class has the document's face and no other, and none of what LANGUAGE.md rules out. */
public final class FaceTest {
    private static final String[] FACE = {
        "int town(int,int)", "boolean path(int)", "int seconds(int)", "boolean clouds(int,int)",
        "int road(int,int,int,int)", "int least(int,int)", "int crowd(int,int,int)", "int dawn(int)",
        "boolean hold(int,int)", "boolean shut(int,int,int)", "int go(int)", "int queue(int)", "int on(int)",
        "int foretold(int)", "int lacks(int)", "int plan(int)", "int planned(int)",
        "boolean counted(int,int,int)", "int came(int,int,int,int)", "int out(int,int)", "int told(int,int)",
        "int at(int,int)", "int count(int)"};
    private static final String[] RULED_OUT = {
        "\\bthrows?\\b", "\\btry\\b", "\\bcatch\\b", "\\bsynchronized\\b", "\\bassert\\b", "->", "::",
        "\\w+Exact\\b", "\\bSystem\\.(?!arraycopy)", "\\bRandom\\b", "\\bThread\\b", "\\bpackage\\b",
        "\\bwhile\\s*\\(\\s*true", "\\bimport (?!java\\.util\\.Arrays;)"};
    private static int wrong = 0;

    private static void say(String what) {
        wrong++;
        System.out.println(what);
    }

    private static String faceOf(Method m) {
        List<String> types = new ArrayList<>();
        for (Class<?> type : m.getParameterTypes()) {
            types.add(type.getSimpleName());
        }
        return m.getReturnType().getSimpleName() + " " + m.getName() + "(" + String.join(",", types) + ")";
    }

    private static void lookAtMethods() {
        List<String> due = new ArrayList<>(Arrays.asList(FACE));
        List<String> open = new ArrayList<>();
        for (Method m : ShadowRoads.class.getDeclaredMethods()) {
            if (Modifier.isPublic(m.getModifiers()) && !Modifier.isStatic(m.getModifiers())) {
                open.add(m.getName());
                if (!due.remove(faceOf(m))) {
                    say("not of the face: " + faceOf(m));
                }
            } else if (!Modifier.isPrivate(m.getModifiers())) {
                say("not private: " + faceOf(m));
            }
        }
        for (String missing : due) {
            say("missing: " + missing);
        }
        for (Method m : ShadowRoads.class.getDeclaredMethods()) {
            if (Modifier.isPrivate(m.getModifiers()) && open.contains(m.getName())) {
                say("a private method bears a public name: " + m.getName());
            }
        }
    }

    private static void lookAtTheRest() {
        int all = ShadowRoads.class.getModifiers();
        if (!Modifier.isPublic(all) || !Modifier.isFinal(all)) {
            say("the class isn't public and final");
        }
        for (Field f : ShadowRoads.class.getDeclaredFields()) {
            if (!Modifier.isPrivate(f.getModifiers()) && !f.getName().equals("NONE")) {
                say("not private: " + f.getName());
            }
            if (Modifier.isStatic(f.getModifiers()) && !Modifier.isFinal(f.getModifiers())) {
                say("static and not final: " + f.getName());
            }
        }
        Constructor<?>[] made = ShadowRoads.class.getDeclaredConstructors();
        if (made.length != 1 || made[0].getParameterCount() != 0 || !Modifier.isPublic(made[0].getModifiers())) {
            say("the constructors aren't the document's");
        }
        for (Class<?> inside : ShadowRoads.class.getDeclaredClasses()) {
            if (!Modifier.isStatic(inside.getModifiers())) {
                say("not static: " + inside.getName());
            }
            if (inside.getDeclaredFields().length > 20) {
                say("too many fields: " + inside.getName());
            }
        }
    }

    private static void lookAtWords() throws IOException {
        String text = Files.readString(Path.of("src/main/java/ShadowRoads.java"));
        String code = text.replaceAll("(?s)/\\*.*?\\*/", "").replaceAll("//[^\n]*", "");
        for (String word : RULED_OUT) {
            Matcher m = Pattern.compile(word).matcher(code);
            if (m.find()) {
                say("ruled out: " + m.group());
            }
        }
    }

    public static void main(String[] args) throws IOException {
        lookAtMethods();
        lookAtTheRest();
        lookAtWords();
        System.out.println(wrong == 0 ? "the face is as due" : wrong + " faults of the face");
        if (wrong != 0) {
            System.exit(1);
        }
    }
}
