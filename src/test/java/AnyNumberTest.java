import java.lang.reflect.Array;
import java.lang.reflect.Field;
import java.lang.reflect.InvocationTargetException;
import java.lang.reflect.Method;
import java.lang.reflect.Modifier;
import java.util.ArrayDeque;
import java.util.ArrayList;
import java.util.Arrays;
import java.util.Comparator;
import java.util.Deque;
import java.util.HashMap;
import java.util.IdentityHashMap;
import java.util.List;
import java.util.Map;
import java.util.NoSuchElementException;

/**
 * Every call with every mix of edge numbers, without a CITY, in a bare one and in a full one: nothing is thrown
 * but by led, what is refused is answered as the document says, what only asks or is refused changes nothing,
 * and the object makes nothing that it keeps.
 */
public final class AnyNumberTest {
    private static final int[] NUMBERS = {Integer.MIN_VALUE, Integer.MIN_VALUE + 1, -65537, -901, -101, -64, -33, -32, -31,
        -9, -2, -1, 0, 1, 2, 3, 4, 5, 6, 7, 8, 9, 10, 12, 16, 31, 32, 33, 60, 61, 63, 64, 65, 128, 255, 256, 900, 901,
        65535, 65536, 65537, 1 << 30, Integer.MAX_VALUE - 1, Integer.MAX_VALUE};
    private static final int[] FEWER = {Integer.MIN_VALUE, -1, 0, 1, 2, 3, 7, 8, 10, 60, 61, 64, 65536, 65537, Integer.MAX_VALUE};
    private static final List<String> DOERS = List.of("feed", "city", "day", "press", "wash", "turn", "undo", "image", "back");
    private static final int CALLS_OF_AN_OBJECT = 100;
    private static final int MOST_OBJECTS = 400;
    private static final int MOST_ELEMENTS = 4000;

    private static final Due DUE = new Due();

    private final String text;
    private CheekClause x;
    private int calls;

    private AnyNumberTest(String text) {
        this.text = text;
        this.calls = CALLS_OF_AN_OBJECT;
    }

    private static String full() {
        StringBuilder s = new StringBuilder("city blur 9 slips 99 rain 99");
        for (char c = 'a'; c < 'e'; c++) {
            s.append(";man m").append(c);
        }
        for (char c = 'a'; c < 'g'; c++) {
            s.append(";deed d").append(c);
        }
        String[] forms = {"must da", "mustnt da", "if da df", "unless df da", "notboth da df", "either df da", "must df", "mustnt df"};
        for (int i = 0; i < 8; i++) {
            s.append(";clause c").append((char) ('a' + i)).append(" on m").append("abdd".charAt(i / 2)).append(" ink 40 ").append(forms[i]);
        }
        for (char c = 'd'; c < 'i'; c++) {
            s.append(";unsure c").append(c);
        }
        for (int i = 0; i < 6; i++) {
            s.append(";did md day ").append(8 * i).append(i % 2 == 0 ? " kept da,db,dc,dd,de,df" : " breach df");
        }
        return s.toString();
    }

    private CheekClause object() {
        if (calls >= CALLS_OF_AN_OBJECT) {
            calls = 0;
            x = new CheekClause();
            if (!text.isEmpty()) {
                DUE.is("city of " + text, Due.tell(x, text) > 0, true);
                x.image();
                x.day();
                x.turn(0);
            }
        }
        calls++;
        return x;
    }

    private void call(Method method, Object[] args) {
        String told = method.getName() + Arrays.toString(args) + " in " + (text.isEmpty() ? "no city" : text.substring(0, 12));
        Object answer = null;
        try {
            answer = method.invoke(object(), args);
        } catch (InvocationTargetException e) {
            boolean isLed = method.getName().equals("led") && e.getCause().getClass() == NoSuchElementException.class;
            DUE.is(told + " threw " + e.getCause(), isLed, true);
            return;
        } catch (IllegalAccessException e) {
            DUE.is(told + " can't be called", true, false);
            return;
        }
        DUE.is(told + ": trouble() within 0 .. 6", x.trouble() >= 0 && x.trouble() <= 6, true);
        boolean takesNumber = args.length > 0 && !List.of("feed", "led", "size").contains(method.getName());
        if (takesNumber && x.trouble() != 0) {
            Object refusal = method.getName().equals("shaves") ? (Object) (-100)
                    : answer instanceof Boolean ? (Object) false : answer instanceof Long ? (Object) (-1L) : (Object) (-1);
            DUE.is(told + " is refused, answers " + answer, answer.equals(refusal), true);
        }
    }

    private void mixes(Method method, Object[] args, int at) {
        Class<?>[] types = method.getParameterTypes();
        if (at == types.length) {
            call(method, args.clone());
        } else if (types[at] == boolean.class) {
            args[at] = true;
            mixes(method, args, at + 1);
            args[at] = false;
            mixes(method, args, at + 1);
        } else {
            // feed takes any five numbers, a few mixes show it
            int step = types.length == 5 ? 11 : 1;
            for (int i = 0; i < NUMBERS.length; i += step) {
                args[at] = NUMBERS[i];
                mixes(method, args, at + 1);
            }
        }
    }

    private void everyCall() {
        Method[] methods = CheekClause.class.getDeclaredMethods();
        Arrays.sort(methods, Comparator.comparing(Method::getName));
        for (Method method : methods) {
            if (Modifier.isPublic(method.getModifiers())) {
                mixes(method, new Object[method.getParameterCount()], 0);
            }
        }
    }

    // ---- what asks, or is refused, changes nothing

    /** All that the document tells of an object: sizes, clauses, and what can be undone or gone back to. */
    private static String state(CheekClause x) {
        StringBuilder s = new StringBuilder();
        for (int what = 0; what <= 11; what++) {
            s.append(x.size(what)).append(' ');
        }
        for (int c = 0; c < x.size(5); c++) {
            for (int what = 3; what <= 5; what++) {
                s.append(x.clause(c, what)).append(' ');
            }
        }
        return s.append(x.fault()).append(' ').append(x.fits()).append(' ').append(x.spread()).toString();
    }

    private void asksOnly(Method method, Object[] args) {
        calls = CALLS_OF_AN_OBJECT;
        CheekClause asked = object();
        String before = state(asked);
        try {
            method.invoke(asked, args);
        } catch (InvocationTargetException | IllegalAccessException e) {
            DUE.is("it is led that throws", method.getName().equals("led"), true);
        }
        boolean isRefused = asked.trouble() != 0;
        // a text with a FAULT is gone from the tape, and fault() tells of it
        boolean isFault = asked.trouble() == 4;
        if (!DOERS.contains(method.getName()) || isRefused && !isFault) {
            String told = method.getName() + Arrays.toString(args);
            DUE.is(told + " changed " + before + " into " + state(asked), state(asked).equals(before), true);
        }
    }

    private void fewerMixes(Method method, Object[] args, int at) {
        Class<?>[] types = method.getParameterTypes();
        if (at == types.length) {
            asksOnly(method, args.clone());
        } else if (types[at] == boolean.class) {
            args[at] = at % 2 == 0;
            fewerMixes(method, args, at + 1);
        } else {
            for (int number : FEWER) {
                args[at] = number;
                fewerMixes(method, args, at + 1);
            }
        }
    }

    private void everyAsking() {
        for (Method method : CheekClause.class.getDeclaredMethods()) {
            if (Modifier.isPublic(method.getModifiers()) && !method.getName().equals("feed")) {
                fewerMixes(method, new Object[method.getParameterCount()], 0);
            }
        }
    }

    // ---- room

    private static List<Field> fieldsOf(Class<?> type) {
        List<Field> fields = new ArrayList<>();
        for (Field field : type.getDeclaredFields()) {
            if (!Modifier.isStatic(field.getModifiers())) {
                field.setAccessible(true);
                fields.add(field);
            }
        }
        return fields;
    }

    /** How many objects and arrays an object holds, and how many fields and elements they have. */
    private static int[] room(Object root) throws IllegalAccessException {
        Map<Object, Boolean> seen = new IdentityHashMap<>();
        Map<Class<?>, List<Field>> known = new HashMap<>();
        Deque<Object> open = new ArrayDeque<>();
        open.add(root);
        seen.put(root, true);
        int elements = 0;
        while (!open.isEmpty()) {
            Object here = open.poll();
            List<Object> parts = new ArrayList<>();
            if (here.getClass().isArray()) {
                int length = Array.getLength(here);
                elements += length;
                for (int i = 0; i < length && !here.getClass().getComponentType().isPrimitive(); i++) {
                    parts.add(Array.get(here, i));
                }
            } else {
                List<Field> fields = known.computeIfAbsent(here.getClass(), AnyNumberTest::fieldsOf);
                elements += fields.size();
                for (Field field : fields) {
                    if (!field.getType().isPrimitive()) {
                        parts.add(field.get(here));
                    }
                }
            }
            for (Object part : parts) {
                if (part != null && seen.put(part, true) == null) {
                    open.add(part);
                }
            }
        }
        return new int[] {seen.size(), elements};
    }

    private static void keepsItsRoom() throws IllegalAccessException {
        DUE.about("room");
        CheekClause x = new CheekClause();
        int[] atFirst = room(x);
        for (int i = 0; i < 5; i++) {
            Due.tell(x, full());
            for (int j = 0; j < 20; j++) {
                x.day();
                x.image();
                x.spread();
            }
        }
        int[] atLast = room(x);
        DUE.is("objects behind 265 calls", atLast[0], atFirst[0]);
        DUE.is("elements behind 265 calls", atLast[1], atFirst[1]);
        DUE.is("few objects: " + atFirst[0], atFirst[0] <= MOST_OBJECTS, true);
        DUE.is("few elements: " + atFirst[1], atFirst[1] <= MOST_ELEMENTS, true);
    }

    public static void main(String[] args) throws IllegalAccessException {
        DUE.about("any number");
        for (String text : new String[] {"", "city blur 0 slips 0 rain 0;man p;deed a", full()}) {
            new AnyNumberTest(text).everyCall();
            new AnyNumberTest(text).everyAsking();
        }
        keepsItsRoom();
        DUE.end("AnyNumberTest");
    }
}
