import java.lang.reflect.Constructor;
import java.lang.reflect.Field;
import java.lang.reflect.Method;
import java.lang.reflect.Modifier;
import java.nio.file.Files;
import java.nio.file.Path;
import java.util.Set;
import java.util.TreeSet;

/** From outside one sees the document's face and nothing else. */
public final class FaceTest {
    private static final String FACE = ""
            + "int feed int int int int int\n"
            + "boolean end int\n"
            + "int game\n"
            + "int goals\n"
            + "int rule\n"
            + "int fault\n"
            + "int follows int int\n"
            + "int kick int\n"
            + "void now int int\n"
            + "int goal\n"
            + "void lost int\n"
            + "void horizon int\n"
            + "void grace int\n"
            + "int sort int int\n"
            + "void patience int\n"
            + "long worth int int\n"
            + "int stop int int boolean\n"
            + "long judge int int int int int int\n"
            + "int does int int int int int int\n"
            + "long waits int int int\n"
            + "int enough int int int\n"
            + "long loses int int int int int\n"
            + "int part int int int int int boolean\n"
            + "int bar int int\n"
            + "int pays int int int\n"
            + "int least int int int int\n"
            + "int rate int int int\n"
            + "int often int int\n"
            + "long match int int boolean\n"
            + "int learn int int\n"
            + "long two int int int int int boolean\n"
            + "long leans int int int int boolean\n"
            + "int played int int int int int int\n"
            + "int ends int int int int int int\n"
            + "long mean int int int\n"
            + "int plain int int\n"
            + "int right int int int int\n"
            + "long rest int int int\n"
            + "int season int int int int int\n"
            + "void image\n"
            + "boolean back\n"
            + "int count int";

    private FaceTest() {
    }

    public static void main(String[] args) throws Exception {
        Class<?> face = WhistleBook.class;
        Check.due("public and final", Modifier.toString(face.getModifiers()), "public final");
        Set<String> names = methods(face);
        for (Field field : face.getDeclaredFields()) {
            boolean isNone = field.getName().equals("NONE");
            Check.due("field " + field, Modifier.isPrivate(field.getModifiers()), !isNone);
            if (isNone) {
                Check.due("NONE", field.toString(), "public static final int WhistleBook.NONE");
            }
        }
        for (Constructor<?> made : face.getDeclaredConstructors()) {
            Check.due("constructor", made.toString(), "public WhistleBook()");
        }
        for (Class<?> inner : face.getDeclaredClasses()) {
            Check.due("static " + inner, Modifier.isStatic(inner.getModifiers()), true);
            Check.due("hidden " + inner, Modifier.isPrivate(inner.getModifiers()), true);
            for (Method method : inner.getDeclaredMethods()) {
                Check.due("a name of the face: " + method, names.contains(method.getName()), false);
            }
        }
        asInTheDocument();
        Check.end("FaceTest");
    }

    // Names, numbers and told exceptions of each call, word by word.
    private static void asInTheDocument() throws Exception {
        String source = inOneLine(Files.readString(Path.of("src/main/java/WhistleBook.java")));
        String document = Files.readString(Path.of("../shared/DOC.md"));
        String told = document.substring(document.indexOf("```java\n") + 8);
        int lines = 0;
        for (String line : told.substring(0, told.indexOf("```")).split("\n")) {
            String due = line.strip();
            if (due.startsWith("public") && due.endsWith(";")) {
                boolean call = due.endsWith(");") || due.contains(" throws ");
                Check.due(due, source.contains(call ? due.replace(";", " {") : due), true);
                lines++;
            }
        }
        Check.due("lines of the face", lines, 44);
    }

    private static String inOneLine(String source) {
        return source.replaceAll("\\s+", " ");
    }

    private static Set<String> methods(Class<?> face) {
        Set<String> due = new TreeSet<>(Set.of(FACE.split("\n")));
        Set<String> names = new TreeSet<>();
        for (String line : due) {
            names.add(line.split(" ")[1]);
        }
        Set<String> seen = new TreeSet<>();
        for (Method method : face.getDeclaredMethods()) {
            if (Modifier.isPrivate(method.getModifiers())) {
                Check.due("a name of the face: " + method, names.contains(method.getName()), false);
            } else {
                StringBuilder told = new StringBuilder(method.getReturnType() + " " + method.getName());
                for (Class<?> parameter : method.getParameterTypes()) {
                    told.append(" ").append(parameter);
                }
                Check.due("public " + method, Modifier.toString(method.getModifiers()), "public");
                seen.add(told.toString());
            }
        }
        Check.due("the face", seen, due);
        return names;
    }
}
