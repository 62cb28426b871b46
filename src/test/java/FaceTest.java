import java.lang.reflect.Constructor;
import java.lang.reflect.Field;
import java.lang.reflect.Method;
import java.lang.reflect.Modifier;
import java.nio.charset.StandardCharsets;
import java.nio.file.Files;
import java.nio.file.Path;
import java.util.ArrayList;
import java.util.Arrays;
import java.util.List;
import java.util.TreeSet;
import java.util.regex.Matcher;
import java.util.regex.Pattern;

/** The public face, and what can be seen of LANGUAGE.md's rules in the source and in the class. */
public final class FaceTest {
    private static final Due due = new Due();
    private static final String FACE = "about(int):int alike(int,int,int,int):int back(int):int can(int,int,int):int cobble(int,int):int dealt():int "
        + "doubled(int,int):long end(int):int fault(int):int feed(int,int,int,int,int):int heard(int,int):int hush(int):int image(int):int later(int):int "
        + "lies(int):int limp(int):int meant(int,int):long reads(int,int):long say(int):int school():int secret(int,int,int):int sound(int,int,int,int):int "
        + "step(int):int stop():int stuck(int):int tell(int,int):int timed(int,int):long untell(int):boolean";

    public static void main(String[] args) throws Exception {
        face();
        source();
        due.finish();
    }

    private static void face() {
        TreeSet<String> open = new TreeSet<>();
        TreeSet<String> names = new TreeSet<>();
        for (Method m : LimpCode.class.getDeclaredMethods()) {
            if (!Modifier.isPrivate(m.getModifiers())) {
                open.add(m.getName() + Arrays.toString(m.getParameterTypes()).replaceAll("[ ]", "").replace('[', '(').replace(']', ')') + ":" + m.getReturnType());
                names.add(m.getName());
                due.is(m + " is public and no more", m.getModifiers(), Modifier.PUBLIC);
            }
        }
        same("the face", String.join(" ", open), FACE);
        due.is("the class is public and final", LimpCode.class.getModifiers(), Modifier.PUBLIC | Modifier.FINAL);
        Constructor<?>[] makers = LimpCode.class.getDeclaredConstructors();
        due.is("one constructor", makers.length, 1);
        due.is("it is public", makers[0].getModifiers(), Modifier.PUBLIC);
        due.is("it takes nothing", makers[0].getParameterCount(), 0);
        List<Class<?>> all = new ArrayList<>(List.of(LimpCode.class.getDeclaredClasses()));
        for (Class<?> c : all) {
            due.is(c + " is static", Modifier.isStatic(c.getModifiers()) ? 1 : 0, 1);
            privateNames(c, names);
        }
        privateNames(LimpCode.class, names);
        all.add(LimpCode.class);
        due.is("twelve classes at most", all.size() <= 12 ? 1 : 0, 1);
        for (Class<?> c : all) {
            fields(c);
        }
        due.is("NONE", LimpCode.NONE, -1);
    }

    private static void privateNames(Class<?> c, TreeSet<String> names) {
        for (Method m : c.getDeclaredMethods()) {
            boolean own = c == LimpCode.class && Modifier.isPublic(m.getModifiers());
            due.is(m + " bears a name of the face", !own && names.contains(m.getName()) ? 1 : 0, 0);
            due.is(m + " takes at most seven", m.getParameterCount() <= 7 ? 1 : 0, 1);
        }
    }

    private static void fields(Class<?> c) {
        int own = 0;
        for (Field f : c.getDeclaredFields()) {
            boolean isStatic = Modifier.isStatic(f.getModifiers());
            due.is(f + " is no static state", isStatic && !Modifier.isFinal(f.getModifiers()) ? 1 : 0, 0);
            if (c == LimpCode.class && !f.getName().equals("NONE")) {
                due.is(f + " is private", Modifier.isPrivate(f.getModifiers()) ? 1 : 0, 1);
            }
            own += isStatic ? 0 : 1;
        }
        due.is(c + " has twenty fields at most", own <= 20 ? 1 : 0, 1);
    }

    private static void source() throws Exception {
        String text = Files.readString(Path.of("src/main/java/LimpCode.java"), StandardCharsets.UTF_8);
        due.is("signs 1 to 127 alone", text.chars().filter(c -> c < 1 || c > 127).count(), 0);
        String code = text.replaceAll("(?s)/\\*.*?\\*/", "").replaceAll("//[^\n]*", "");
        for (String word : new String[] {"throw", "throws", "try", "catch", "synchronized", "assert", "package", "protected", "System.out", "Object", "Random"}) {
            due.is("the word " + word, Pattern.compile("\\b" + Pattern.quote(word) + "\\b").matcher(code).find() ? 1 : 0, 0);
        }
        for (String sign : new String[] {"->", "::", "static {", "Exact("}) {
            due.is("the sign " + sign, code.contains(sign) ? 1 : 0, 0);
        }
        Matcher imports = Pattern.compile("import ([^;]*);").matcher(code);
        while (imports.find()) {
            same("an import", imports.group(1), "java.util.Arrays");
        }
        Matcher library = Pattern.compile("\\b(Arrays|Math|System|Integer|Long)\\.(\\w+)").matcher(code);
        List<String> listed = List.of("Arrays.fill", "Math.max", "Math.min", "Math.abs", "System.arraycopy");
        while (library.find()) {
            due.is(library.group() + " is listed", listed.contains(library.group()) ? 1 : 0, 1);
        }
    }

    private static void same(String what, String got, String want) {
        due.is(what + ": " + got + " for " + want, got.equals(want) ? 1 : 0, 1);
    }
}
