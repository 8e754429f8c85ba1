import java.io.IOException;
import java.lang.reflect.Field;
import java.lang.reflect.Method;
import java.lang.reflect.Modifier;
import java.nio.file.Files;
import java.nio.file.Path;
import java.util.Set;
import java.util.TreeSet;

/** What can be seen of ../shared/LANGUAGE.md from outside: the face, the classes inside, and words that must not stand in the file. */
public final class LanguageTest {
    private static final Set<String> FACE = new TreeSet<>(Set.of(
            "int feed(int,int,int,int,int)", "int end(int)", "int module()", "int rule()", "int out(int)", "int number(int,int)",
            "int sounds(int)", "int analyse(int)", "int analysis(int,int)", "int cell(int,int,int)", "int guess(int)",
            "int guessed(int,int)", "int parse(int,int)", "long trees()", "long bar(int,boolean)", "int price(int)",
            "int reading(int,int)", "int tree(int)", "int show(int)", "boolean same(int,int)", "int say(int,int,int)", "int mean(int)",
            "int truth(int)", "int swap(int,int,int)", "int candidate(int)", "int add(int)", "int ask(int)", "int hit(int,int)",
            "int mend(int,int)", "int count(int,int)"));

    public static void main(String[] args) throws IOException {
        Check c = new Check("language");
        Class<?> house = TongueHouse.class;
        Set<String> face = new TreeSet<>();
        Set<String> names = new TreeSet<>();
        for (Method m : house.getDeclaredMethods()) {
            if (Modifier.isPublic(m.getModifiers())) {
                face.add(signature(m));
                names.add(m.getName());
            }
        }
        c.dueText("the face", face.toString(), FACE.toString());
        c.due("public constructors", house.getConstructors().length, 1);
        c.due("the class is final", Modifier.isFinal(house.getModifiers()) ? 1 : 0, 1);
        for (Field f : house.getDeclaredFields()) {
            c.due("private: " + f.getName(), Modifier.isPrivate(f.getModifiers()) ? 1 : 0, 1);
        }
        members(c, house, names);
        c.due("classes, some twelve", house.getDeclaredClasses().length + 1 <= 13 ? 1 : 0, 1);
        for (Class<?> inside : house.getDeclaredClasses()) {
            c.due("static: " + inside.getName(), Modifier.isStatic(inside.getModifiers()) ? 1 : 0, 1);
            members(c, inside, names);
        }
        words(c);
        Check.finish();
    }

    private static String signature(Method m) {
        StringBuilder all = new StringBuilder(m.getReturnType() + " " + m.getName() + "(");
        for (Class<?> p : m.getParameterTypes()) {
            all.append(all.charAt(all.length() - 1) == '(' ? "" : ",").append(p);
        }
        return all.append(")").toString();
    }

    private static void members(Check c, Class<?> of, Set<String> taken) {
        for (Method m : of.getDeclaredMethods()) {
            boolean isPublic = Modifier.isPublic(m.getModifiers());
            c.due("its name is free: " + of.getName() + "." + m.getName(), !isPublic && taken.contains(m.getName()) ? 1 : 0, 0);
            c.due("parameters of " + m.getName(), m.getParameterCount() <= 7 ? 1 : 0, 1);
        }
        int fields = 0;
        for (Field f : of.getDeclaredFields()) {
            boolean isStatic = Modifier.isStatic(f.getModifiers());
            fields += isStatic ? 0 : 1;
            c.due("final if static: " + f.getName(), isStatic && !Modifier.isFinal(f.getModifiers()) ? 1 : 0, 0);
        }
        c.due("some twenty fields: " + of.getName() + " has " + fields, fields <= 22 ? 1 : 0, 1);
    }

    private static void words(Check c) throws IOException {
        String text = Files.readString(Path.of("src/main/java/TongueHouse.java"));
        String code = text.replaceAll("(?s)/\\*.*?\\*/", "").replaceAll("//[^\n]*", "");
        for (String word : new String[] {"->", "::", "try {", "catch", "finally", "synchronized", "assert ", "static {", "package ",
            "java.io", "System.out", "currentTimeMillis", "nanoTime", "Random", "Thread", "getMessage", "hashCode", "toString",
            "while (true)", "for (;;)", "HashMap", "Exact("}) {
            c.due("must not stand in it: " + word, code.contains(word) ? 1 : 0, 0);
        }
        c.due("one import", code.split("import ", -1).length - 1, 1);
        c.due("which is Arrays", code.contains("import java.util.Arrays;") ? 1 : 0, 1);
    }
}
