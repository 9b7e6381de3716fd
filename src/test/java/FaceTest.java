import java.lang.reflect.Member;
import java.lang.reflect.Modifier;
import java.nio.file.Files;
import java.nio.file.Path;
import java.util.ArrayList;
import java.util.List;
import java.util.TreeSet;
import java.util.regex.Matcher;
import java.util.regex.Pattern;

/** The class has the document's face and no other, and keeps to the words that LANGUAGE.md leaves. */
public final class FaceTest {
    private static final Path SOURCE = Path.of("src/main/java/DishHouse.java");
    private static final String[] FACE = {
        "int NONE", "int BAD", "int FULL", "int NOT", "DishHouse()",
        "int dish(int,int)", "int tune(int,int,int)", "int reel(int,int,int)", "int lose(int)",
        "int put(int,int,int,int)", "int get(int,int,int)", "int copy(int,int,int,int,int)",
        "int flag(int,int,int)", "int unflag()", "int ticks(int,int)", "long product(int,int)",
        "int delay(int,int)", "int three(int,int,int)", "int four(int,int,int,int)", "int beam(int,int)",
        "int point(int,int,int)", "int dark()", "int board(int)", "long at(int,int)",
        "int window(int,int,int,int)", "int peak()", "int take(int,int)", "long part(int,int)", "int back()",
        "int source(int,int,int)", "int order(int,int,int)", "int wipe()", "int night(int)", "int told(int)",
        "int count(int)", "long digest()"
    };
    private static int wrong;

    private static void due(boolean holds, String what) {
        if (holds) return;
        wrong++;
        System.out.println("FaceTest: " + what);
    }

    public static void main(String[] args) throws Exception {
        face();
        constants();
        names();
        sizes();
        lengths();
        words();
        System.out.println(wrong == 0 ? "FaceTest: all as due" : "FaceTest: " + wrong + " wrong");
        if (wrong != 0) System.exit(1);
    }

    private static void face() {
        TreeSet<String> want = new TreeSet<>(List.of(FACE));
        TreeSet<String> has = new TreeSet<>();
        int classModifiers = DishHouse.class.getModifiers();
        due(Modifier.isPublic(classModifiers) && Modifier.isFinal(classModifiers), "the class is public and final");
        for (Member m : members(DishHouse.class)) {
            if (Modifier.isPrivate(m.getModifiers())) continue;
            due(Modifier.isPublic(m.getModifiers()), m.getName() + " is neither public nor private");
            has.add(told(m));
        }
        due(has.equals(want), "the face is " + has);
    }

    private static void constants() throws Exception {
        String[] constants = {"NONE", "BAD", "FULL", "NOT"};
        for (int n = 0; n < constants.length; n++) {
            due(DishHouse.class.getField(constants[n]).getInt(null) == -1 - n, constants[n] + " is " + (-1 - n));
        }
    }

    private static String told(Member m) {
        if (m instanceof java.lang.reflect.Field f) {
            int mods = f.getModifiers();
            due(Modifier.isStatic(mods) && Modifier.isFinal(mods), f.getName() + " is a constant");
            return f.getType() + " " + f.getName();
        }
        java.lang.reflect.Executable e = (java.lang.reflect.Executable) m;
        List<String> types = new ArrayList<>();
        for (Class<?> c : e.getParameterTypes()) types.add(c.getName());
        String name = e instanceof java.lang.reflect.Method x ? x.getReturnType() + " " + x.getName() : e.getName();
        return name + "(" + String.join(",", types) + ")";
    }

    private static List<Member> members(Class<?> c) {
        List<Member> all = new ArrayList<>();
        all.addAll(List.of(c.getDeclaredFields()));
        all.addAll(List.of(c.getDeclaredConstructors()));
        all.addAll(List.of(c.getDeclaredMethods()));
        return all;
    }

    private static void names() {
        TreeSet<String> open = new TreeSet<>();
        for (java.lang.reflect.Method m : DishHouse.class.getDeclaredMethods()) {
            if (Modifier.isPublic(m.getModifiers())) open.add(m.getName());
        }
        for (java.lang.reflect.Method m : DishHouse.class.getDeclaredMethods()) {
            due(Modifier.isPublic(m.getModifiers()) || !open.contains(m.getName()), "private " + m.getName());
        }
        Class<?>[] inside = DishHouse.class.getDeclaredClasses();
        due(inside.length <= 12, "at most twelve classes");
        for (Class<?> c : inside) {
            due(Modifier.isStatic(c.getModifiers()), c.getName() + " is static");
            due(!Modifier.isPublic(c.getModifiers()) && !Modifier.isProtected(c.getModifiers()), c.getName() + " is not open");
            for (java.lang.reflect.Method m : c.getDeclaredMethods()) {
                due(!open.contains(m.getName()), c.getName() + "." + m.getName() + " bears a public name");
            }
        }
    }

    /** Rules 5 and 11: fields that are not constants, and parameters. */
    private static void sizes() {
        List<Class<?>> all = new ArrayList<>(List.of(DishHouse.class.getDeclaredClasses()));
        all.add(DishHouse.class);
        for (Class<?> c : all) {
            int fields = 0;
            for (java.lang.reflect.Field f : c.getDeclaredFields()) {
                boolean isStatic = Modifier.isStatic(f.getModifiers());
                due(!isStatic || Modifier.isFinal(f.getModifiers()), c.getName() + "." + f.getName() + " is final");
                if (!isStatic) fields++;
            }
            due(fields <= 20, c.getName() + " has " + fields + " fields");
            for (Member m : members(c)) {
                if (!(m instanceof java.lang.reflect.Executable e)) continue;
                due(e.getParameterCount() <= 7, c.getName() + "." + m.getName() + " takes more than seven");
            }
        }
    }

    /** Rule 11: a method ends with the first line that closes it at the depth at which it began. */
    private static void lengths() throws Exception {
        List<String> lines = Files.readAllLines(SOURCE);
        Pattern head = Pattern.compile("(    |        )\\w[^=;]*\\) \\{");
        int methods = 0;
        for (int from = 0; from < lines.size(); from++) {
            Matcher m = head.matcher(lines.get(from));
            if (!m.matches() || lines.get(from).matches("\\s*(if|for|while|switch) .*")) continue;
            int to = from;
            while (to < lines.size() && !lines.get(to).equals(m.group(1) + "}")) to++;
            due(to < lines.size() && to - from < 60, "long method: " + lines.get(from).trim());
            methods++;
        }
        due(methods > 70, "only " + methods + " methods are seen");
    }

    private static void words() throws Exception {
        String text = Files.readString(SOURCE);
        String code = text.replaceAll("(?s)/\\*.*?\\*/", " ").replaceAll("//[^\n]*", " ");
        String[] banned = {
            "throw", "throws", "try", "catch", "finally", "synchronized", "assert", "native", "volatile", "float",
            "double", "package", "new Random", "System\\.(?!arraycopy)\\w+", "Exact\\b", "Thread", "->", "::",
            "hashCode", "toString", "var"
        };
        for (String word : banned) {
            Matcher m = Pattern.compile((Character.isLetter(word.charAt(0)) ? "\\b" : "") + word
                    + (word.matches("\\w+") ? "\\b" : "")).matcher(code);
            due(!m.find(), "the source says " + word);
        }
        Matcher imports = Pattern.compile("import\\s+([\\w.]+)").matcher(code);
        while (imports.find()) {
            due(imports.group(1).matches("java\\.util\\.(Arrays|ArrayList|List|Iterator)"), "import " + imports.group(1));
        }
        due(text.chars().allMatch(c -> c < 128), "signs above 127");
    }
}
