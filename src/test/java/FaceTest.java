import java.io.IOException;
import java.lang.reflect.Constructor;
import java.lang.reflect.Field;
import java.lang.reflect.Method;
import java.lang.reflect.Modifier;
import java.nio.charset.StandardCharsets;
import java.nio.file.Files;
import java.nio.file.Path;
import java.util.Set;
import java.util.TreeSet;
import java.util.regex.Pattern;

/** The public face of the class, and the rules of LANGUAGE.md that can be seen from the file alone. */
public final class FaceTest {
    private static final String FACE = "public back()int public begin()int public call()int"
        + " public contract(int)int public draw(int)int public expected(int,int)long public fault()int"
        + " public fits(int,int)int public give(int,int)int public hand(int,int)int public hands(int,int)int"
        + " public holes(int,int,int)int public limit(int,int,int,int)int public load()int"
        + " public made(int,int)int public make(int)int public move(int,int)int public part(int,int)int"
        + " public put(long)int public reach(int)int public remove(int)int public rule(int,int,int,int)int"
        + " public ruleOf(int)int public shown(int,int,int)int public state(int)int public tricks(int,int,int)int"
        + " public wipe()int";
    private static final String CONSTANTS = "BAD_TEXT BAD_VALUE NONE NOT_POSSIBLE NO_SUCH PASS TOO_MANY";
    private static final String FORBIDDEN = "->|::|\\bthrow|\\btry\\b|\\bcatch\\b|\\bassert\\b|\\bsynchronized\\b"
        + "|\\bequals\\b|\\bhashCode\\b|\\btoString\\b|\\bSystem\\b|\\bObject\\b|\\bvar\\b|\\bpackage\\b|Exact\\(|@";

    private static int wrong = 0;

    private static void due(String what, String got, String want) {
        if (!got.equals(want)) {
            wrong++;
            System.out.println(what + " is\n  " + got + "\ndue is\n  " + want);
        }
    }

    private static String parameters(Class<?>[] types) {
        StringBuilder text = new StringBuilder("(");
        for (Class<?> type : types) {
            text.append(text.length() > 1 ? "," : "").append(type.getName());
        }
        return text.append(")").toString();
    }

    private static void face() {
        due("the class", Modifier.toString(BidLanguage.class.getModifiers()), "public final");
        Set<String> methods = new TreeSet<>();
        Set<String> names = new TreeSet<>();
        for (Method method : BidLanguage.class.getDeclaredMethods()) {
            String modifiers = Modifier.toString(method.getModifiers());
            if (!Modifier.isPrivate(method.getModifiers())) {
                methods.add(modifiers + " " + method.getName() + parameters(method.getParameterTypes()) + method.getReturnType());
                names.add(method.getName());
            }
        }
        due("the methods", String.join(" ", methods), FACE);
        for (Method method : BidLanguage.class.getDeclaredMethods()) {
            if (Modifier.isPrivate(method.getModifiers()) && names.contains(method.getName())) {
                due("a private method with a public name", method.getName(), "");
            }
        }
        Set<String> constants = new TreeSet<>();
        for (Field field : BidLanguage.class.getDeclaredFields()) {
            if (!Modifier.isPrivate(field.getModifiers())) {
                constants.add(field.getName());
                due(field.getName(), Modifier.toString(field.getModifiers()) + " " + field.getType(), "public static final int");
            }
        }
        due("the constants", String.join(" ", constants), CONSTANTS);
        Constructor<?>[] constructors = BidLanguage.class.getDeclaredConstructors();
        due("the constructors", constructors.length + Modifier.toString(constructors[0].getModifiers())
            + parameters(constructors[0].getParameterTypes()), "1public()");
    }

    private static void inside() {
        for (Class<?> inner : BidLanguage.class.getDeclaredClasses()) {
            due("the class " + inner.getName(), Modifier.toString(inner.getModifiers()), "private static final");
        }
    }

    private static void source() throws IOException {
        String text = Files.readString(Path.of("src/main/java/BidLanguage.java"), StandardCharsets.ISO_8859_1);
        String code = text.replaceAll("(?s)/\\*.*?\\*/|//[^\n]*", "");
        due("signs beyond 127", String.valueOf(text.chars().anyMatch(sign -> sign > 126)), "false");
        due("the imports", code.replaceAll("(?s)\\s*public final class.*", "").trim(), "import java.util.ArrayList;");
        var found = Pattern.compile(FORBIDDEN).matcher(code);
        due("a word that is not allowed", found.find() ? found.group() : "", "");
    }

    public static void main(String[] args) throws IOException {
        face();
        inside();
        source();
        System.out.println("FaceTest: " + wrong + " wrong");
        if (wrong != 0) {
            System.exit(1);
        }
    }
}
