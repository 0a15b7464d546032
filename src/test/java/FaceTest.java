import java.lang.reflect.Method;
import java.lang.reflect.Modifier;
import java.util.Random;
import java.util.Set;
import java.util.TreeSet;

/** The face, and what holds for all calls: nothing is thrown, and what refuses or tells changes nothing. */
public final class FaceTest {
    private static final Set<String> FACE = Set.of(
        "letter(int)int", "blank()int", "fault()int", "sea()int", "person(int,int)int",
        "as(int,int)int", "choose(int,int)int", "paint(int,int)int", "limit(int)int",
        "show(int,int)int", "back(int,int)int", "day()int", "meet(int,int)int", "part(int)int",
        "lasting(int)int", "mutual()int", "comes(int,int,int)int", "best(int,int)int",
        "waiting(int,int,int)int", "howMany(int)int", "see(int,int,boolean)int", "forget()int",
        "seasons(int,int,int)int", "image()int", "restore()int", "count(int)int", "digest()long");
    private static final Set<String> TELLS = Set.of("fault", "person", "as", "lasting", "mutual",
        "comes", "best", "waiting", "howMany", "seasons", "count", "digest", "image");
    private static final int[] EDGES = {Integer.MIN_VALUE, -2, -1, 31, 32, 60, 61, 126, 127,
        Integer.MAX_VALUE};

    public static void main(String[] args) throws Exception {
        constants();
        members();
        randomCalls();
        noObjectIsMade();
        Check.end();
    }

    private static void constants() {
        Check.same("NONE", ThumbSea.NONE, -1);
        Check.same("UNKNOWN", ThumbSea.UNKNOWN, -101);
        Check.same("OUTSIDE", ThumbSea.OUTSIDE, -102);
        Check.same("STATE", ThumbSea.STATE, -103);
        Check.same("FULL", ThumbSea.FULL, -104);
        Check.same("constants", ThumbSea.class.getFields().length, 5);
    }

    private static void members() {
        Set<String> found = new TreeSet<>();
        Set<String> names = new TreeSet<>();
        for (Method method : ThumbSea.class.getDeclaredMethods()) {
            if (Modifier.isPublic(method.getModifiers())) {
                found.add(told(method));
                names.add(method.getName());
            }
        }
        Check.same("the face is " + found, found.equals(new TreeSet<>(FACE)) ? 1 : 0, 1);
        for (Method method : ThumbSea.class.getDeclaredMethods()) {
            boolean hidden = Modifier.isPrivate(method.getModifiers());
            Check.same(method + " is of the face or private",
                hidden != names.contains(method.getName()) ? 1 : 0, 1);
        }
        Check.same("constructors", ThumbSea.class.getDeclaredConstructors().length, 1);
        Check.same("final", Modifier.isFinal(ThumbSea.class.getModifiers()) ? 1 : 0, 1);
        for (Class<?> inside : ThumbSea.class.getDeclaredClasses()) {
            Check.same(inside + " is static", Modifier.isStatic(inside.getModifiers()) ? 1 : 0, 1);
            Check.same(inside + " is not public", Modifier.isPublic(inside.getModifiers()) ? 1 : 0, 0);
        }
    }

    private static String told(Method method) {
        StringBuilder text = new StringBuilder(method.getName()).append('(');
        for (Class<?> type : method.getParameterTypes()) {
            text.append(text.charAt(text.length() - 1) == '(' ? "" : ",").append(type.getName());
        }
        return text.append(')').append(method.getReturnType().getName()).toString();
    }

    private static Object argument(Class<?> type, Random random) {
        if (type == boolean.class) {
            return random.nextBoolean();
        }
        return random.nextInt(8) == 0 ? EDGES[random.nextInt(EDGES.length)] : random.nextInt(11) - 1;
    }

    private static void randomCalls() throws Exception {
        Method[] calls = new Method[FACE.size()];
        int size = 0;
        for (Method method : ThumbSea.class.getDeclaredMethods()) {
            if (Modifier.isPublic(method.getModifiers())) {
                calls[size++] = method;
            }
        }
        java.util.Arrays.sort(calls, (a, b) -> a.getName().compareTo(b.getName()));
        Random random = new Random(3);
        RandomSeas seas = new RandomSeas(4);
        for (int run = 0; run < 300; run++) {
            ThumbSea x = new ThumbSea();
            for (int step = 0; step < 230; step++) {
                if (step == 5 || random.nextInt(150) == 0) {
                    x.blank();
                    Check.write(x, seas.text());
                    x.sea();
                }
                Method call = calls[random.nextInt(calls.length)];
                Class<?>[] types = call.getParameterTypes();
                Object[] arguments = new Object[types.length];
                for (int i = 0; i < types.length; i++) {
                    arguments[i] = argument(types[i], random);
                }
                callOnce(x, call, arguments);
            }
        }
    }

    private static void callOnce(ThumbSea x, Method call, Object[] arguments) throws Exception {
        long before = x.digest();
        long answer = ((Number) call.invoke(x, arguments)).longValue();
        String name = call.getName();
        boolean refused = !name.equals("digest") && answer <= -101 && answer >= -104;
        if (refused || TELLS.contains(name)) {
            Check.same(name + java.util.Arrays.toString(arguments) + " leaves all as it was",
                x.digest(), before);
        }
        if (!refused && !name.equals("digest")) {
            Check.same(name + " is a number or NONE", answer >= -1 ? 1 : 0, 1);
        }
    }

    /** All calls of a run live in one room: the rows are made with the object. */
    private static void noObjectIsMade() {
        com.sun.management.ThreadMXBean bean = (com.sun.management.ThreadMXBean)
            java.lang.management.ManagementFactory.getThreadMXBean();
        if (!bean.isThreadAllocatedMemorySupported()) {
            return;
        }
        long id = Thread.currentThread().getId();
        ThumbSea x = Check.sea("o535,e211,h714,o803;o624,s513,e300,h902");
        useAll(x);
        bean.getThreadAllocatedBytes(id);
        long before = bean.getThreadAllocatedBytes(id);
        for (int i = 0; i < 20; i++) {
            useAll(x);
        }
        long made = bean.getThreadAllocatedBytes(id) - before;
        Check.same("bytes made by calls: " + made, made < 10000 ? 1 : 0, 1);
    }

    private static void useAll(ThumbSea x) {
        x.image();
        x.show(0, 4);
        x.show(4, 0);
        x.meet(0, 4);
        x.part(0);
        x.see(0, 4, true);
        x.lasting(0);
        x.comes(8, 9, 1);
        x.best(8, 0);
        x.waiting(8, 3, 1);
        x.howMany(8);
        x.seasons(60, 7, 0);
        x.digest();
        x.restore();
    }
}
