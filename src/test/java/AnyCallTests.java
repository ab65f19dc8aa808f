import java.lang.reflect.InvocationTargetException;
import java.lang.reflect.Method;
import java.util.ArrayList;
import java.util.Arrays;
import java.util.Comparator;
import java.util.List;
import java.util.Random;

/**
 * Any calls with any arguments in any state, with fixed seeds, also behind the 512th call: each call ends, throws
 * nothing but what it declares, and that by a throw of the class itself, never of the machine or the library;
 * errors() stays 0. It also looks at the face: no member but those of the document.
 */
public final class AnyCallTests {
    private static final String[] TEXTS = {
        "put a 1;", "put a 1,2;", "put b lack,3;", "put b 4,5,'abc';", "put c -7;", "put d 1,2,3,4,5;", "put a lack;",
        "set a v=v+1;", "set a v=w*2-v/(v-1) where v<5;", "set b w=1/v where not lacks w;", "set c v=-v*v*v*v;",
        "set d z=y+x where[v=1 or w<>2];", "drop a where v=1;", "drop b;", "drop c where lacks v;", "drop d where v<w;",
        "from a take v0;", "from a,b where v0=v1 take v0,w1 order down v0 first 7;", "from a,b,c where v0=v1 and v1=v2 take count;",
        "from a where v0<3 and 5<v0 take v0,rank over(v0 along v0),run(v0*2)over(along v0);",
        "from b by v0,w0 with count<9 take v0,total(w0),least(v0/w0),most(w0) order count,down v0;",
        "from a where some(from b where v1=v0 and w1<3) or v0 in(from b,c where v1=v2 take v1+1) take v0;",
        "from c where lacks v0 take -v0,1/0,'zz';", "from d where v0 in(from d take w1)and not some(from a,b) take z0;",
        "from b,b where v0=v1 and w0=w1 and x0<>x1 take x0,x1 order w0+w1;", "from a take total(v0),count;",
        "from a,a,a where v0=v1 and v1=v2 and v0=v2 take 1;", "from d where 1=2 take most(y0);",
        "0", "(0x1)", "(0h1)", "(1m0)", "(0i1)", "((0x1)x2)", "((0i1)i2)", "(0h(1m2))", "((2h1)i0)", "(((((", "(0", "",
        "from a where [[[[[[[[[[v0=1]]]]]]]]]] take 1;", "from a where ((((((((((((v0", "not not not", "from a take -------------1;",
        "from a where some(some(some(", "take take take", "from a,a,a,a,a", "put a 1,1,1,1,1,1,1,1,1,1,1,1,1,1,1;", "'''''''''"};

    private final Random r;
    private final Columnworks x = new Columnworks();
    private final List<Method> methods = new ArrayList<>();
    private final StringBuilder story = new StringBuilder();
    private static int wrong = 0;

    private AnyCallTests(long seed) {
        r = new Random(seed);
        for (Method m : Columnworks.class.getDeclaredMethods()) {
            if (java.lang.reflect.Modifier.isPublic(m.getModifiers())) {
                methods.add(m);
            }
        }
        methods.sort(Comparator.comparing(Method::getName));
    }

    private int anyInt() {
        int k = r.nextInt(20);
        if (k == 0) return Integer.MIN_VALUE;
        if (k == 1) return Integer.MAX_VALUE;
        if (k == 2) return r.nextInt();
        if (k == 3) return -1 - r.nextInt(3);
        if (k == 4) return r.nextInt(200);
        if (k < 8) return r.nextInt(70);
        return r.nextInt(k < 14 ? 3 : 8);
    }

    private Object any(Class<?> type) {
        if (type == boolean.class) {
            return r.nextBoolean();
        }
        if (type == int.class) {
            return anyInt();
        }
        int k = r.nextInt(4);
        return k == 0 ? r.nextLong() : k == 1 ? Long.MIN_VALUE : k == 2 ? (Long) (long) anyInt() : (Long) Long.MAX_VALUE;
    }

    private void call(Method m, Object... args) {
        story.append(m.getName()).append(Arrays.toString(args)).append('\n');
        try {
            Object got = m.invoke(x, args);
            if (m.getName().equals("errors") && !got.equals(0)) {
                fail(m, args, "answered " + got);
            }
            boolean isNaN = got instanceof Double && ((Double) got).isNaN() || got instanceof Float && ((Float) got).isNaN();
            if (isNaN) {
                fail(m, args, "answered no number");
            }
        } catch (InvocationTargetException e) {
            Throwable t = e.getCause();
            boolean isDeclared = false;
            for (Class<?> c : m.getExceptionTypes()) {
                isDeclared |= c == t.getClass();
            }
            boolean isOwn = t.getStackTrace().length > 0 && t.getStackTrace()[0].getClassName().equals("Columnworks");
            if (!isDeclared || !isOwn) {
                t.printStackTrace(System.out);
                fail(m, args, "threw " + t);
            }
        } catch (IllegalAccessException e) {
            fail(m, args, "can't be called");
        }
    }

    private void fail(Method m, Object[] args, String what) {
        wrong++;
        System.out.println(m.getName() + Arrays.toString(args) + " " + what);
    }

    private Method named(String name) {
        for (Method m : methods) {
            if (m.getName().equals(name)) {
                return m;
            }
        }
        throw new Error(name);
    }

    private void typeSome() {
        if (r.nextInt(10) > 0) {
            call(named("wipe"));
        }
        String s = TEXTS[r.nextInt(TEXTS.length)];
        if (r.nextInt(8) == 0 && !s.isEmpty()) {
            int at = r.nextInt(s.length());
            s = s.substring(0, at) + (char) (32 + r.nextInt(95)) + s.substring(at + r.nextInt(2));
        }
        for (int i = 0; i < s.length(); i++) {
            x.type(s.length() + 0 > 200 ? ' ' : s.charAt(i));
        }
    }

    private void play() {
        int many = 400 + r.nextInt(1200);
        if (r.nextInt(8) > 0) {
            for (int i = 0; i < 4; i++) {
                call(named("table"), i == 3 ? 5 : i == 1 ? 2 + r.nextInt(2) : 1 + r.nextInt(2));
            }
        }
        for (int i = 0; i < many && wrong < 5; i++) {
            if (r.nextInt(3) == 0) {
                try {
                    typeSome();
                } catch (IllegalStateException e) {
                    call(named("wipe"));
                }
                String[] users = {"change", "change", "ask", "ask", "write", "open", "cost", "fault"};
                Method m = named(users[r.nextInt(users.length)]);
                call(m, args(m));
            } else {
                Method m = methods.get(r.nextInt(methods.size()));
                call(m, args(m));
            }
        }
        call(named("errors"));
    }

    private Object[] args(Method m) {
        Object[] args = new Object[m.getParameterCount()];
        for (int i = 0; i < args.length; i++) {
            args[i] = any(m.getParameterTypes()[i]);
        }
        // valid ones, so that more than exceptions is seen
        if (m.getName().equals("open") && r.nextInt(3) > 0) {
            return new Object[] {r.nextInt(4), r.nextInt(x.moment() + 1), 1 + r.nextInt(64), 2 + r.nextInt(20)};
        }
        if (m.getName().equals("fill") && r.nextInt(3) > 0) {
            return new Object[] {r.nextInt(4), 1 + r.nextInt(20), r.nextInt(30), r.nextInt(5), 1 + r.nextInt(20), r.nextBoolean()};
        }
        return args;
    }

    private static void lookAtFace() {
        int methods = 0;
        for (Method m : Columnworks.class.getDeclaredMethods()) {
            boolean isPublic = java.lang.reflect.Modifier.isPublic(m.getModifiers());
            boolean isPrivate = java.lang.reflect.Modifier.isPrivate(m.getModifiers());
            methods += isPublic ? 1 : 0;
            if (!isPublic && !isPrivate) {
                wrong++;
                System.out.println("neither public nor private: " + m);
            }
        }
        int fields = 0;
        for (java.lang.reflect.Field f : Columnworks.class.getDeclaredFields()) {
            boolean isPublic = java.lang.reflect.Modifier.isPublic(f.getModifiers());
            fields += isPublic ? 1 : 0;
            if (!isPublic && !java.lang.reflect.Modifier.isPrivate(f.getModifiers())) {
                wrong++;
                System.out.println("neither public nor private: " + f);
            }
        }
        if (methods != 53 || fields != 9 || Columnworks.class.getDeclaredConstructors().length != 1) {
            wrong++;
            System.out.println(methods + " public methods, " + fields + " public constants");
        }
    }

    public static void main(String[] args) {
        int objects = args.length > 0 ? Integer.parseInt(args[0]) : 600;
        long first = args.length > 1 ? Long.parseLong(args[1]) : 1;
        lookAtFace();
        for (long seed = first; seed < first + objects && wrong < 5; seed++) {
            new AnyCallTests(seed).play();
        }
        System.out.println(wrong == 0 ? "no call threw what it should not" : wrong + " calls are wrong");
        System.exit(wrong == 0 ? 0 : 1);
    }
}
