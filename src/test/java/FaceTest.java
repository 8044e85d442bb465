import java.lang.reflect.Constructor;
import java.lang.reflect.Field;
import java.lang.reflect.Member;
import java.lang.reflect.Method;
import java.lang.reflect.Modifier;
import java.util.Arrays;
import java.util.NoSuchElementException;
import java.util.TreeSet;

/** The public face: what there is, and nothing else. */
public final class FaceTest {
    private static final String[] METHODS = {
        "int feed(int, int, int, int, int)", "int loft(int)", "int fault()", "int where()",
        "int house(int, int)", "int bird(int, int)", "int apart(int, int)", "int birds()", "int fullest()",
        "int clean()",
        "int whereIn(int, int)", "int sitIn(int, int)", "int whiteIn(int, int)", "int sitsIn(int)", "int worstDay()",
        "int whitest(int)", "int allSit()",
        "int mayMeet(int)", "int meeting(int, int)", "int owes(int)", "int poor()", "int peace()", "int mate(int)",
        "int peaces()", "int most(int)", "int coinsFor(int)", "int ring(int)", "int ringAt(int, int)",
        "int payable(int)", "int bestMeeting()", "int feud(int, int)", "int quiet(int)",
        "int fits()", "int fitAt(int, int)", "int could(int)", "int surely(int)", "int look()", "int lookLeaves()",
        "int judge()",
        "int sends(int, boolean, boolean, boolean)", "int rests(int)", "int rest(int)",
        "long safe(int, int, boolean)", "long left(int, int, boolean)", "long stays(int, boolean)",
        "int aloft(int, int)", "int last(int)",
        "int day()", "int pay(int, int)", "int meet(int, int)", "boolean undo()", "int image()", "boolean back(int)",
        "int led(int)", "int size(int)", "int trouble()"};

    public static void main(String[] args) {
        classAndConstructor();
        methods();
        ledDeclares();
        none();
        fiveHundredAndTwelve();
        Check.end("FaceTest");
    }

    // The public face, "public final class GrudgeLoft": it is that; one constructor, which takes nothing
    private static void classAndConstructor() {
        int modifiers = GrudgeLoft.class.getModifiers();
        Check.due("public final", modifiers, Modifier.PUBLIC | Modifier.FINAL);
        Check.due("no package", GrudgeLoft.class.getPackageName().isEmpty(), true);
        Check.due("extends Object alone", GrudgeLoft.class.getSuperclass() == Object.class, true);
        Check.due("implements nothing", GrudgeLoft.class.getInterfaces().length, 0);
        Constructor<?>[] made = GrudgeLoft.class.getDeclaredConstructors();
        Check.due("constructors", made.length, 1);
        Check.due("constructor takes", made[0].getParameterCount(), 0);
        Check.due("constructor is public", made[0].getModifiers(), Modifier.PUBLIC);
    }

    // The public face, "public int trouble();": all 56 methods up to this one, and no other that isn't private
    private static void methods() {
        TreeSet<String> told = new TreeSet<>(Arrays.asList(METHODS));
        Check.due("methods told", told.size(), 56);
        TreeSet<String> found = new TreeSet<>();
        for (Method method : GrudgeLoft.class.getDeclaredMethods()) {
            if (isOpen(method)) {
                String takes = String.join(", ",
                        Arrays.stream(method.getParameterTypes()).map(Class::getName).toList());
                found.add(method.getReturnType().getName() + " " + method.getName() + "(" + takes + ")");
                Check.due(method + ": modifiers", method.getModifiers(), Modifier.PUBLIC);
            }
        }
        Check.due("methods are " + found + " as told", found.equals(told), true);
    }

    private static boolean isOpen(Member member) {
        return !Modifier.isPrivate(member.getModifiers()) && !member.isSynthetic();
    }

    // The public face, "public int led(int i) throws NoSuchElementException;": it declares that, no other anything
    private static void ledDeclares() {
        for (Method method : GrudgeLoft.class.getDeclaredMethods()) {
            Class<?>[] thrown = method.getExceptionTypes();
            boolean declares = thrown.length == 1 && thrown[0] == NoSuchElementException.class;
            if (method.getName().equals("led")) {
                Check.due("led declares it", declares, true);
            } else {
                Check.due(method + " declares", thrown.length, 0);
            }
        }
    }

    // Terms IV, "`NONE = -1`: There is none; refused.": that number, and no other constant to be seen
    private static void none() {
        Check.due("NONE", GrudgeLoft.NONE, -1);
        for (Field field : GrudgeLoft.class.getDeclaredFields()) {
            if (isOpen(field)) {
                Check.due(field + " is NONE", field.getName().equals("NONE"), true);
                Check.due("NONE: modifiers", field.getModifiers(),
                        Modifier.PUBLIC | Modifier.STATIC | Modifier.FINAL);
            }
        }
    }

    // What it is, "An object is used for at most 512 calls after it has been made": the 512th answers as the first did
    private static void fiveHundredAndTwelve() {
        GrudgeLoft x = new GrudgeLoft();
        Check.feed(x, Check.TOWN);
        int calls = x.size(11) / 20 + 1;
        x.loft(Check.TOWN.length());
        calls++;
        for (; calls < 510; calls++) {
            x.day();
        }
        Check.due("call 511: the day", x.size(7), 510 - Check.TOWN.length() / 20 - 3);
        Check.due("call 512: day()", x.day(), 4);
    }
}
