import java.lang.reflect.Constructor;
import java.lang.reflect.Field;
import java.lang.reflect.Method;
import java.lang.reflect.Modifier;
import java.nio.file.Files;
import java.nio.file.Path;
import java.util.Arrays;
import java.util.HashSet;
import java.util.List;
import java.util.NoSuchElementException;
import java.util.Set;
import java.util.TreeSet;

/** The public face is the document's and no more; the file keeps to what LANGUAGE.md rules out in plain words. */
public final class FaceTest {
    private static final String FACE = "int feed(int,int,int,int,int) int city(int) int fault() int where() "
            + "int clause(int,int) int man(int,int) int keeps(int,int) int may(int,int) int ways(int) int wayAt(int,int) "
            + "int can(int) int must(int) int idlest(int) int stuck() int mostBound() int bar(int) int free(int) "
            + "int cheap(int) int price(int) int idle(int) int heaviest(int) int feared(int) int spread() "
            + "int spreadAt(int) int together() int ink(int,int) int waysIn(int,int) int freeIn(int) int clearIn(int) "
            + "int mayIn(int,int) int fits() int fitAt(int) long odds(int,boolean) int likeliest() int ask() "
            + "int askLeaves() int judge() int shaves(int,boolean,boolean,boolean) int rests(int) int rest(int) "
            + "long mayOdds(int,int,boolean) long freeOdds(int,boolean) long mean(int,boolean) int rained(int,int) "
            + "int freeBy(int,int,int) int day() int press(int,int) boolean wash(int) int turn(int) boolean undo() "
            + "int image() boolean back(int) int led(int) int size(int) int trouble()";
    private static final List<String> FORBIDDEN = List.of("->", "::", "Exact(", "synchronized", "assert ", "finally",
            "catch", "System.out", "Random", "currentTime", "nanoTime", "hashCode", "Thread", "protected", "@", "\t");
    private static final int MOST_LINES = 60;
    private static final int MOST_FIELDS = 20;
    private static final int MOST_PARAMETERS = 7;
    private static final int MOST_CLASSES = 12;

    private static final Due DUE = new Due();

    private FaceTest() {
    }

    private static void face() {
        Class<?> type = CheekClause.class;
        DUE.is("public and final", type.getModifiers() & (Modifier.PUBLIC | Modifier.FINAL),
                Modifier.PUBLIC | Modifier.FINAL);
        Set<String> found = new TreeSet<>();
        Set<String> names = new HashSet<>();
        Set<String> hidden = new HashSet<>();
        for (Method m : type.getDeclaredMethods()) {
            if (Modifier.isPublic(m.getModifiers())) {
                String args = Arrays.toString(m.getParameterTypes()).replaceAll("[\\[\\] ]", "");
                found.add(m.getReturnType() + " " + m.getName() + "(" + args + ")");
                names.add(m.getName());
                DUE.is(m + " is of the object", Modifier.isStatic(m.getModifiers()), false);
                List<Class<?>> thrown = m.getName().equals("led") ? List.of(NoSuchElementException.class) : List.of();
                DUE.is(m + " throws what the document says", List.of(m.getExceptionTypes()).equals(thrown), true);
            } else {
                DUE.is(m + " is private", Modifier.isPrivate(m.getModifiers()), true);
                hidden.add(m.getName());
            }
        }
        Set<String> want = new TreeSet<>(Arrays.asList(FACE.split(" (?=int |long |boolean )")));
        System.out.print(found.equals(want) ? "" : "found " + found + "\nwant  " + want + "\n");
        DUE.is("the methods are the document's", found.equals(want), true);
        for (Class<?> inner : type.getDeclaredClasses()) {
            DUE.is(inner + " is static", Modifier.isStatic(inner.getModifiers()), true);
            for (Method m : inner.getDeclaredMethods()) {
                hidden.add(m.getName());
            }
        }
        hidden.retainAll(names);
        DUE.is("private methods with public names: " + hidden, hidden.size(), 0);
        for (Field f : type.getDeclaredFields()) {
            boolean isNone = f.getName().equals("NONE");
            DUE.is(f.toString(), Modifier.isPrivate(f.getModifiers()), !isNone);
        }
        Constructor<?>[] made = type.getDeclaredConstructors();
        DUE.is("one constructor", made.length, 1);
        DUE.is("without arguments", made[0].getParameterCount(), 0);
    }

    private static void rooms(Class<?> type) {
        int fields = 0;
        for (Field f : type.getDeclaredFields()) {
            boolean isStatic = Modifier.isStatic(f.getModifiers());
            fields += isStatic ? 0 : 1;
            DUE.is(f + " is final, if static", isStatic && !Modifier.isFinal(f.getModifiers()), false);
        }
        DUE.is(type + " has too many fields", fields > MOST_FIELDS, false);
        for (Method m : type.getDeclaredMethods()) {
            DUE.is(m + " takes too much", m.getParameterCount() > MOST_PARAMETERS, false);
        }
    }

    private static void allRooms() {
        Class<?>[] inner = CheekClause.class.getDeclaredClasses();
        DUE.is("too many classes", inner.length + 1 > MOST_CLASSES, false);
        rooms(CheekClause.class);
        for (Class<?> type : inner) {
            rooms(type);
            DUE.is(type + " has classes inside", type.getDeclaredClasses().length, 0);
        }
    }

    private static void source(Path path) throws java.io.IOException {
        List<String> lines = Files.readAllLines(path);
        int start = -1;
        for (int i = 0; i < lines.size(); i++) {
            String line = lines.get(i);
            for (String word : FORBIDDEN) {
                DUE.is("line " + (i + 1) + " has " + word, line.contains(word), false);
            }
            boolean isImport = line.startsWith("import ");
            DUE.is("line " + (i + 1) + " imports", isImport && !line.equals("import java.util.NoSuchElementException;"), false);
            DUE.is("line " + (i + 1) + " is of signs up to 126", line.chars().allMatch(c -> c >= 32 && c < 127), true);
            if (line.matches(" {4,8}(public|private) .*\\) (throws \\w+ )?\\{")) {
                start = i;
            }
            if (line.matches(" {4,8}\\}") && start >= 0) {
                DUE.is("too many lines from line " + (start + 1), i - start + 1 > MOST_LINES, false);
                start = -1;
            }
        }
    }

    public static void main(String[] args) throws java.io.IOException {
        DUE.about("the face");
        face();
        DUE.about("rules 5 and 11 of LANGUAGE.md");
        allRooms();
        DUE.about("the file");
        source(Path.of(args.length > 0 ? args[0] : "src/main/java/CheekClause.java"));
        DUE.end("FaceTest");
    }
}
