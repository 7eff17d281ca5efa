import java.lang.reflect.Constructor;
import java.lang.reflect.Field;
import java.lang.reflect.Method;
import java.lang.reflect.Modifier;
import java.nio.file.Files;
import java.nio.file.Path;
import java.util.ArrayList;
import java.util.List;
import java.util.Set;
import java.util.TreeSet;
import java.util.regex.Matcher;
import java.util.regex.Pattern;

/** The public face, no throw by any arguments, and those rules of LANGUAGE.md that a program can look at. */
public final class FaceTest {
    private static final String FACE = "set(int,int) cup(int,int,int,int,boolean) told(int,int) part(int,int,int)"
        + " pull(int,int) still() type(long,int) toy() pulls() at(int,int) end(int) count(int) ends(int,int)"
        + " cells(int,int) middle(int,int) mended(int,int) odds(int) which() trick(int,int,int,int) most(int,int)"
        + " row(int,int) clear() cord(int,int) down(int,int) filmed(int,int,int,int,int) image() restore()"
        + " film(int,int,int,int) sheet(int,int,int) drop(int) item(int,int,int,int) copy(int,int,int,int,int)";
    private static final String CONSTANTS =
        "BAD=-1 NOT=-2 FULL=-3 NONE=-4 NULL=-11 CAST=-12 INDEX=-13 SIZE=-14";
    private static final Path SOURCE = Path.of("src/main/java/BallInCup.java");
    private static final long[] EDGES = {Integer.MIN_VALUE, -100001, -100, -10, -2, -1, 0, 1, 2, 3, 4, 5, 8, 9, 10, 12,
        16, 20, 24, 60, 99, 100, 180, 1000, Integer.MAX_VALUE - 1, Integer.MAX_VALUE};
    private static int wrong = 0;

    public static void main(String[] args) throws Exception {
        face();
        inside();
        neverThrows();
        words();
        lengths();
        System.out.println(wrong == 0 ? "the face and the rules are kept" : wrong + " things are not as due");
        if (wrong != 0) {
            System.exit(1);
        }
    }

    private static void must(boolean holds, String what) {
        if (!holds) {
            wrong++;
            System.out.println("not as due: " + what);
        }
    }

    private static String signature(Method m) {
        StringBuilder s = new StringBuilder(m.getName()).append('(');
        for (Class<?> type : m.getParameterTypes()) {
            s.append(s.charAt(s.length() - 1) == '(' ? "" : ",").append(type.getName());
        }
        return s.append(')').toString();
    }

    private static void face() throws Exception {
        Class<?> c = BallInCup.class;
        must(Modifier.isPublic(c.getModifiers()) && Modifier.isFinal(c.getModifiers()), "public and final");
        Set<String> methods = new TreeSet<>();
        for (Method m : c.getDeclaredMethods()) {
            if (!Modifier.isPrivate(m.getModifiers())) {
                methods.add(signature(m));
                must(Modifier.isPublic(m.getModifiers()) && m.getReturnType() == int.class, "face of " + m);
            }
        }
        must(methods.equals(new TreeSet<>(Set.of(FACE.split(" ")))), "the methods: " + methods);
        Set<String> constants = new TreeSet<>();
        for (Field f : c.getDeclaredFields()) {
            if (!Modifier.isPrivate(f.getModifiers())) {
                constants.add(f.getName() + "=" + f.getInt(null));
                must(Modifier.isStatic(f.getModifiers()) && Modifier.isFinal(f.getModifiers()), "constant " + f);
            }
        }
        must(constants.equals(new TreeSet<>(Set.of(CONSTANTS.split(" ")))), "the constants: " + constants);
        Constructor<?>[] made = c.getDeclaredConstructors();
        must(made.length == 1 && Modifier.isPublic(made[0].getModifiers()), "one public constructor");
        must(made[0].getParameterCount() == 0, "a constructor without parameters");
    }

    private static void inside() {
        Set<String> names = new TreeSet<>();
        for (Method m : BallInCup.class.getDeclaredMethods()) {
            if (Modifier.isPublic(m.getModifiers())) {
                names.add(m.getName());
            }
        }
        List<Class<?>> classes = new ArrayList<>(List.of(BallInCup.class.getDeclaredClasses()));
        must(classes.size() <= 11, "rule 11: twelve classes");
        for (Class<?> c : classes) {
            int modifiers = c.getModifiers();
            must(Modifier.isStatic(modifiers), "rule 1: static " + c);
            must(!Modifier.isPublic(modifiers) && !Modifier.isProtected(modifiers), "rule 1: not public " + c);
        }
        classes.add(BallInCup.class);
        for (Class<?> c : classes) {
            int fields = 0;
            for (Field f : c.getDeclaredFields()) {
                boolean isStatic = Modifier.isStatic(f.getModifiers());
                must(!isStatic || Modifier.isFinal(f.getModifiers()), "rule 5: final " + f);
                fields += isStatic ? 0 : 1;
            }
            must(fields <= 20, "rule 11: twenty fields of " + c);
            for (Method m : c.getDeclaredMethods()) {
                must(m.getParameterCount() <= 7, "rule 11: seven parameters of " + m);
                must(Modifier.isPublic(m.getModifiers()) || !names.contains(m.getName()), "rule 1: the name of " + m);
            }
        }
    }

    private static BallInCup toy(int kind) {
        BallInCup b = new BallInCup();
        if (kind > 0) {
            b.cup(1, 0, 3, 5, false);
            b.part(2, 1, 8);
            b.trick(7, 9, 3, 4);
            b.sheet(0, 0, 0);
            b.sheet(1, 1, 7);
            b.sheet(2, 2, 24);
            b.image();
        }
        for (int i = 0; kind > 1 && i < 8; i++) {
            b.cup(-i, i, i, i, true);
            b.part(20, i % 3 - 1, 9 - i);
            b.trick(16, 1, 99, 9);
            b.type(0x202b302b30393b20L, 8);
        }
        return b;
    }

    /** Each call with edges in each place: nothing may be thrown, whatever the state. */
    private static void neverThrows() throws Exception {
        for (Method m : BallInCup.class.getDeclaredMethods()) {
            if (Modifier.isPublic(m.getModifiers())) {
                for (int kind = 0; kind < 3; kind++) {
                    BallInCup b = toy(kind);
                    int calls = m.getName().equals("cord") || m.getName().equals("mended") ? 60 : 400;
                    for (int i = 0; i < calls; i++) {
                        callWithEdges(b, m, i);
                    }
                }
            }
        }
    }

    private static void callWithEdges(BallInCup b, Method m, int i) throws Exception {
        Class<?>[] types = m.getParameterTypes();
        Object[] arguments = new Object[types.length];
        long mixed = i * 2654435761L + 12345;
        for (int k = 0; k < types.length; k++) {
            mixed = mixed * 6364136223846793005L + 1442695040888963407L;
            long edge = EDGES[(int) Math.floorMod(mixed >> 33, (long) EDGES.length)];
            arguments[k] = types[k] == int.class ? (Object) (int) edge : types[k] == long.class ? (Object) mixed : edge > 0;
        }
        try {
            m.invoke(b, arguments);
        } catch (java.lang.reflect.InvocationTargetException e) {
            must(false, m + " threw " + e.getCause() + " for " + List.of(arguments));
        }
    }

    private static void words() throws Exception {
        String text = Files.readString(SOURCE);
        must(text.chars().allMatch(c -> c < 127), "signs 1 to 126 alone");
        String code = text.replaceAll("(?s)/\\*.*?\\*/", "").replaceAll("//[^\n]*", "");
        String[] forbidden = {"->", "::", "\\bfinally\\b", "\\bassert\\b", "\\bsynchronized\\b", "Exact\\b",
            "\\bcatch\\b", "\\bthrow\\b", "\\bpackage\\b", "\\bhashCode\\b", "\\btoString\\b", "\\bObject\\b",
            "\\bRandom\\b", "\\bSystem\\.(?!arraycopy)", "\\bThread\\b", "@", "\\bdouble\\b", "\\bfloat\\b"};
        for (String word : forbidden) {
            must(!Pattern.compile(word).matcher(code).find(), "no " + word);
        }
        Matcher imports = Pattern.compile("import ([^;]*);").matcher(code);
        while (imports.find()) {
            must(Set.of("java.util.Arrays", "java.util.ArrayList", "java.util.List").contains(imports.group(1)),
                "rule 4: " + imports.group());
        }
    }

    /** Methods stay short, and none but a constructor makes an object. */
    private static void lengths() throws Exception {
        List<String> lines = Files.readAllLines(SOURCE);
        Pattern head = Pattern.compile("^( {4}| {8})(?! |return|else|if|for|while|switch)[\\w\\[\\] ]*\\w\\(.*\\) \\{$");
        int begin = -1;
        String indent = "";
        for (int i = 0; i < lines.size(); i++) {
            String line = lines.get(i);
            must(line.length() <= 120, "a line of no more than 120 signs, line " + (i + 1));
            Matcher m = head.matcher(line);
            if (begin < 0 && m.matches()) {
                begin = i;
                indent = m.group(1);
            }
            boolean isMaker = begin >= 0 && lines.get(begin).matches("^ *(public )?[A-Z]\\w*\\(.*");
            must(isMaker || !line.matches(".*\\bnew\\b.*[\\[(].*"), "only constructors make objects, line " + (i + 1));
            if (begin >= 0 && line.equals(indent + "}")) {
                must(i - begin < 60, "rule 11: sixty lines from line " + (begin + 1));
                begin = -1;
            }
        }
    }
}
