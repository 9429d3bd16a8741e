import java.lang.reflect.Constructor;
import java.lang.reflect.Field;
import java.lang.reflect.Method;
import java.lang.reflect.Modifier;
import java.util.Set;
import java.util.TreeSet;

/** The public face stands just as the document tells it, and nothing else of the class is open (rules 1, 2, 5, 11). */
public final class FaceTest {
    private static final Check CHECK = new Check("FaceTest");
    private static final String[] CALLS = {"int length(int)", "int exchange(int,int)", "int inverse(int)",
        "int orders(int,int)", "int step(int,int,int)", "int blank(int)", "int lose(int)", "int add(int,long,int)",
        "int terms(int)", "int exponents(int,int)", "long number(int,int)", "int sum(int,int,int,int)",
        "int product(int,int,int)", "int turned(int,int,int)", "int difference(int,int,int)", "int polynomial(int,int)",
        "long part(int,int)", "long constant(int,int,int)", "int same(int,int)", "int strip(int,int,int,int,int)",
        "int fillings(int,int,int,int,int)", "int orderOf(int,int,int)", "int begin(int,int)", "int condition(int)",
        "long meeting()", "int field(int)", "int rod(int,int,int)", "int drop(int)", "int meet(int,int)",
        "int lines(int)", "int points(int)", "int count(int)", "long digest()"};
    private static final String[] CONSTANTS = {"NONE", "BAD", "NULL", "HIGH", "GREAT", "LONG", "FULL"};

    public static void main(String[] args) throws Exception {
        Class<?> house = MeetHouse.class;
        CHECK.due("public and final", house.getModifiers(), Modifier.PUBLIC | Modifier.FINAL);
        CHECK.holds("no class above", house.getSuperclass() == Object.class && house.getInterfaces().length == 0);
        constants(house);
        calls(house);
        Constructor<?>[] made = house.getDeclaredConstructors();
        CHECK.holds("one public constructor", made.length == 1 && Modifier.isPublic(made[0].getModifiers())
                && made[0].getParameterCount() == 0 && made[0].getExceptionTypes().length == 0);
        Set<String> open = new TreeSet<>();
        for (Method method : house.getDeclaredMethods()) {
            if (Modifier.isPublic(method.getModifiers())) {
                open.add(method.getName());
            }
        }
        inside(house, open);
        CHECK.holds("at most twelve classes", house.getDeclaredClasses().length + 1 <= 12);
        for (Class<?> nested : house.getDeclaredClasses()) {
            int modifiers = nested.getModifiers();
            CHECK.holds(nested + " is static", Modifier.isStatic(modifiers));
            CHECK.holds(nested + " is not open", !Modifier.isPublic(modifiers) && !Modifier.isProtected(modifiers));
            CHECK.due(nested + " holds no class", nested.getDeclaredClasses().length, 0);
            inside(nested, open);
        }
        CHECK.end();
    }

    private static void constants(Class<?> house) throws Exception {
        int value = -1;
        for (String name : CONSTANTS) {
            Field field = house.getDeclaredField(name);
            CHECK.due(name, field.getInt(null), value);
            CHECK.due(name + " is a constant", field.getModifiers(),
                    Modifier.PUBLIC | Modifier.STATIC | Modifier.FINAL);
            CHECK.holds(name + " is an int", field.getType() == int.class);
            value--;
        }
        int open = 0;
        for (Field field : house.getDeclaredFields()) {
            open += Modifier.isPrivate(field.getModifiers()) ? 0 : 1;
        }
        CHECK.due("no other open field", open, CONSTANTS.length);
    }

    private static void calls(Class<?> house) {
        Set<String> due = new TreeSet<>(Set.of(CALLS));
        Set<String> got = new TreeSet<>();
        for (Method method : house.getDeclaredMethods()) {
            if (!Modifier.isPrivate(method.getModifiers())) {
                CHECK.due(method + " is public and nothing more", method.getModifiers(), Modifier.PUBLIC);
                CHECK.due(method + " throws nothing", method.getExceptionTypes().length, 0);
                StringBuilder told = new StringBuilder(method.getReturnType() + " " + method.getName() + "(");
                for (Class<?> type : method.getParameterTypes()) {
                    told.append(told.charAt(told.length() - 1) == '(' ? "" : ",").append(type);
                }
                got.add(told.append(")").toString());
            }
        }
        CHECK.holds("the calls: due " + due + ", there " + got, due.equals(got));
    }

    private static void inside(Class<?> one, Set<String> open) {
        int fields = 0;
        for (Field field : one.getDeclaredFields()) {
            boolean isStatic = Modifier.isStatic(field.getModifiers());
            CHECK.holds(field + ": static is final", !isStatic || Modifier.isFinal(field.getModifiers()));
            CHECK.holds(field + ": static is a number", !isStatic || field.getType().isPrimitive());
            fields += isStatic ? 0 : 1;
        }
        CHECK.holds(one + " has at most twenty fields", fields <= 20);
        for (Method method : one.getDeclaredMethods()) {
            CHECK.holds(method + " takes at most seven", method.getParameterCount() <= 7);
            CHECK.holds(method + " bears no name of the face", one == MeetHouse.class
                    && Modifier.isPublic(method.getModifiers()) || !open.contains(method.getName()));
            CHECK.holds(method + " is no lambda", !method.isSynthetic());
        }
    }
}
