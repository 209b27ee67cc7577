import java.lang.reflect.Constructor;
import java.lang.reflect.Field;
import java.lang.reflect.Member;
import java.lang.reflect.Method;
import java.lang.reflect.Modifier;
import java.nio.charset.StandardCharsets;
import java.nio.file.Files;
import java.nio.file.Path;
import java.util.Arrays;
import java.util.HashSet;
import java.util.List;
import java.util.Set;
import java.util.TreeSet;
import java.util.regex.Matcher;
import java.util.regex.Pattern;

/** What of LANGUAGE.md and of the document's face a test can see: the source's words, the class by reflection. */
public final class LanguageTest {
    private static final Check CHECK = new Check("LanguageTest");
    private static final String SOURCE = "src/main/java/UpTheFlue.java";

    private static final String[] FACE = {
        "int count(int)", "int feed(int,int,int,int,int,int)", "int text()", "int force(int)", "int asks(int,int,int,int)",
        "int bit(int,int,int,int)", "int mend(int,int,int)", "int lay(int,int)", "int told(int,int)", "int all(int)",
        "int flue(int,int)", "int join(int,int)", "int rod(int,int,int)", "int push(int,int,int)", "int sweep(int,int)",
        "int needs(int)", "int fire(int,int,int)", "int smoke(int,int,int)", "int draw(int,int)", "int smokes(int)",
        "long fine(int,int,int)", "int when(int,int,int)", "int often(int,int,int,int)", "int round(int,int,int)",
        "int ball(int,int,int)", "int judge(int,int)", "int whose(int)", "int laws(int,int)", "int blocked(int,int,int)",
        "int film(int,int,int)", "int drawn(int,int,int,int)", "long odds(int,int,int,int,int)", "int image()", "int back()",
        "int sheet(int,int,int)", "int cell(int,int,int)", "int copy(int,int,int,int,int)", "int bitsBy(int,int,int,int)",
        "int taken(int,int)"
    };

    /** What the source may not hold, comments and texts aside. */
    private static final String[] BANNED = {
        "\\bthrow\\b", "\\bthrows\\b", "\\btry\\b", "\\bcatch\\b", "\\bfinally\\b", "\\bsynchronized\\b", "\\bassert\\b",
        "->", "::", "\\bimport\\b", "\\bpackage\\b", "\\binterface\\b.*\\bdefault\\b", "\\bvolatile\\b", "\\btransient\\b",
        "\\bnative\\b", "\\bprotected\\b", "\\bSystem\\.(?!arraycopy\\b)", "\\bThread\\b", "\\bRandom\\b", "\\bObject\\b",
        "\\bdouble\\b", "\\bfloat\\b", "\\bequals\\b", "\\bhashCode\\b", "\\btoString\\b", "Exact\\b", "@", "\\bwhile\\b\\s*\\(true\\)",
        "for\\s*\\(\\s*;", "\"\\s*\\+", "\\+\\s*\"", "\\+=\\s*\"", "[^\\x00-\\x7f]"
    };

    private LanguageTest() {
    }

    public static void main(String[] args) throws Exception {
        face();
        classesInside();
        String source = Files.readString(Path.of(SOURCE), StandardCharsets.UTF_8);
        bannedWords(bare(source));
        methods(bare(source));
        CHECK.end();
    }

    private static void face() {
        Class<?> face = UpTheFlue.class;
        CHECK.isTrue("public and final", Modifier.isPublic(face.getModifiers()) && Modifier.isFinal(face.getModifiers()));
        Set<String> open = new TreeSet<>();
        for (Method m : face.getDeclaredMethods()) {
            if (!Modifier.isPrivate(m.getModifiers())) {
                CHECK.isTrue(m.getName() + " is public, not static", Modifier.isPublic(m.getModifiers()) && !Modifier.isStatic(m.getModifiers()));
                open.add(signature(m));
            }
        }
        CHECK.isTrue("the methods of the face: " + open, open.equals(new TreeSet<>(List.of(FACE))));
        Constructor<?>[] made = face.getDeclaredConstructors();
        CHECK.isTrue("one constructor", made.length == 1 && Modifier.isPublic(made[0].getModifiers()) && made[0].getParameterCount() == 0);
        Set<String> constants = new TreeSet<>();
        for (Field f : face.getDeclaredFields()) {
            if (!Modifier.isPrivate(f.getModifiers())) {
                CHECK.isTrue(f.getName() + " is a public constant", isPublicConstant(f));
                constants.add(f.getType() + " " + f.getName());
            }
        }
        CHECK.isTrue("the constants: " + constants, constants.equals(Set.of("int NONE", "int BAD", "int STATE", "int FULL", "long NO")));
    }

    private static boolean isPublicConstant(Member m) {
        return Modifier.isPublic(m.getModifiers()) && Modifier.isStatic(m.getModifiers()) && Modifier.isFinal(m.getModifiers());
    }

    private static String signature(Method m) {
        StringBuilder out = new StringBuilder(m.getReturnType().getName()).append(' ').append(m.getName()).append('(');
        for (int i = 0; i < m.getParameterCount(); i++) {
            out.append(i == 0 ? "" : ",").append(m.getParameterTypes()[i].getName());
        }
        return out.append(')').toString();
    }

    private static void classesInside() {
        Set<String> open = new HashSet<>();
        for (Method m : UpTheFlue.class.getDeclaredMethods()) {
            if (Modifier.isPublic(m.getModifiers())) {
                open.add(m.getName());
            }
        }
        Class<?>[] inside = UpTheFlue.class.getDeclaredClasses();
        CHECK.isTrue("some twelve classes at most", inside.length < 12);
        for (Class<?> c : inside) {
            CHECK.isTrue(c + " is static", Modifier.isStatic(c.getModifiers()));
            CHECK.isTrue(c + " is private or package-visible", !Modifier.isPublic(c.getModifiers()) && !Modifier.isProtected(c.getModifiers()));
            for (Method m : c.getDeclaredMethods()) {
                CHECK.isTrue(m + " bears no name of the face", !open.contains(m.getName()));
            }
            checkFields(c);
        }
        checkFields(UpTheFlue.class);
    }

    private static void checkFields(Class<?> c) {
        int own = 0;
        for (Field f : c.getDeclaredFields()) {
            if (Modifier.isStatic(f.getModifiers())) {
                CHECK.isTrue(f + " is final", Modifier.isFinal(f.getModifiers()));
                CHECK.isTrue(f + " is a constant", Arrays.asList("int", "long", "boolean", "char", "java.lang.String").contains(f.getType().getName()));
            } else {
                own++;
            }
        }
        CHECK.isTrue(c + " has some twenty fields at most", own <= 20);
    }

    /** The source without comments, and with empty texts and signs. */
    private static String bare(String source) {
        return source.replaceAll("(?s)/\\*.*?\\*/", "").replaceAll("//[^\n]*", "")
            .replaceAll("\"[^\"\n]*\"", "\"\"").replaceAll("'[^'\n]+'", "' '");
    }

    private static void bannedWords(String bare) {
        for (String each : BANNED) {
            Matcher m = Pattern.compile(each).matcher(bare);
            CHECK.isTrue("no " + each + " in the source", !m.find());
        }
        Matcher calls = Pattern.compile("\\b(Math|Integer|Long)\\.(\\w+)").matcher(bare);
        while (calls.find()) {
            CHECK.isTrue(calls.group() + " is listed", List.of("compare", "max", "min", "abs", "bitCount", "floorDiv", "floorMod").contains(calls.group(2)));
        }
    }

    /** Methods of sixty lines at most, with seven parameters at most. */
    private static void methods(String bare) {
        String[] lines = bare.split("\n", -1);
        int begun = -1;
        String end = "";
        for (int i = 0; i < lines.length; i++) {
            Matcher m = Pattern.compile("^(    |        )(?! ).*\\(([^()]*)\\) \\{$").matcher(lines[i]);
            if (begun < 0 && m.find()) {
                begun = i;
                end = m.group(1) + "}";
                CHECK.isTrue("seven parameters at most: " + lines[i], m.group(2).split(",").length <= 7);
            } else if (begun >= 0 && lines[i].equals(end)) {
                CHECK.isTrue("sixty lines at most: " + lines[begun], i - begun <= 60);
                begun = -1;
            }
        }
        CHECK.isTrue("every method has its end", begun < 0);
    }
}
