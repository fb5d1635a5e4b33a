import java.lang.reflect.Constructor;
import java.lang.reflect.Field;
import java.lang.reflect.Method;
import java.lang.reflect.Modifier;
import java.nio.file.Files;
import java.nio.file.Path;
import java.util.Set;
import java.util.TreeSet;

/** The class has the document's face and nothing else that is visible (rule 1 of LANGUAGE.md). */
public final class FaceTest {
    private static int wrong = 0;

    private FaceTest() { }

    private static void expect(boolean holds, String what) {
        if (!holds) {
            wrong++;
            System.out.println("wrong: " + what);
        }
    }

    private static Set<String> documentFace() throws Exception {
        Set<String> face = new TreeSet<>();
        String text = Files.readString(Path.of("../shared/DOC.md"));
        String block = text.substring(text.indexOf("public final class LinkTraining {"));
        for (String line : block.substring(0, block.indexOf("```")).split("\n")) {
            if (line.startsWith("    public ")) {
                face.add(line.trim().replaceAll("( [a-z]\\w*)(?=[,)])", ""));
            }
        }
        return face;
    }

    private static String names(Class<?>[] types) {
        StringBuilder names = new StringBuilder();
        for (Class<?> type : types) {
            names.append(names.length() > 0 ? ", " : "").append(type.getSimpleName());
        }
        return names.toString();
    }

    private static String thrown(Class<?>[] types) {
        return types.length > 0 ? " throws " + names(types) : "";
    }

    private static Set<String> programFace() throws Exception {
        Set<String> face = new TreeSet<>();
        for (Constructor<?> c : LinkTraining.class.getDeclaredConstructors()) {
            expect(Modifier.isPublic(c.getModifiers()), "visible constructor " + c);
            face.add("public LinkTraining(" + names(c.getParameterTypes()) + ");");
        }
        for (Field f : LinkTraining.class.getDeclaredFields()) {
            if (!Modifier.isPrivate(f.getModifiers())) {
                face.add(Modifier.toString(f.getModifiers()) + " " + f.getType().getSimpleName() + " " + f.getName()
                        + " = " + f.get(null) + ";");
            }
        }
        for (Method m : LinkTraining.class.getDeclaredMethods()) {
            if (!Modifier.isPrivate(m.getModifiers())) {
                face.add(Modifier.toString(m.getModifiers()) + " " + m.getReturnType().getSimpleName() + " "
                        + m.getName() + "(" + names(m.getParameterTypes()) + ")" + thrown(m.getExceptionTypes()) + ";");
            }
        }
        return face;
    }

    private static void privateNames() {
        Set<String> open = new TreeSet<>();
        for (Method m : LinkTraining.class.getDeclaredMethods()) {
            if (Modifier.isPublic(m.getModifiers())) {
                open.add(m.getName());
            }
        }
        for (Method m : LinkTraining.class.getDeclaredMethods()) {
            expect(Modifier.isPublic(m.getModifiers()) || !open.contains(m.getName()), "private name " + m.getName());
        }
        for (Class<?> inside : LinkTraining.class.getDeclaredClasses()) {
            expect(Modifier.isStatic(inside.getModifiers()) && !Modifier.isPublic(inside.getModifiers()),
                    "class inside " + inside);
            for (Field f : inside.getDeclaredFields()) {
                expect(!Modifier.isStatic(f.getModifiers()) || Modifier.isFinal(f.getModifiers()), "static field " + f);
            }
        }
    }

    public static void main(String[] args) throws Exception {
        Set<String> document = documentFace();
        Set<String> program = programFace();
        expect(document.equals(program), "the face differs");
        document.stream().filter(s -> !program.contains(s)).forEach(s -> System.out.println("  missing: " + s));
        program.stream().filter(s -> !document.contains(s)).forEach(s -> System.out.println("  not asked for: " + s));
        expect(Modifier.isFinal(LinkTraining.class.getModifiers()), "the class is final");
        privateNames();
        System.out.println("the face has " + document.size() + " members, " + wrong + " wrong");
        System.exit(wrong > 0 ? 1 : 0);
    }
}
