import java.lang.reflect.Constructor;
import java.lang.reflect.Field;
import java.lang.reflect.Method;
import java.lang.reflect.Modifier;
import java.util.TreeSet;

/** The public face is the document's, and nothing else can be seen from outside. */
public final class FaceTest {
    // Behind ! stand the declared exceptions in their order: I is IndexOutOfBoundsException, A is
    // IllegalArgumentException, S is IllegalStateException.
    private static final String METHODS = "append(int,int,int,int,int):int load(int):int!A errorOffset():int"
            + " issuerCount():int merchantCount():int reasonCount():int purchaseCount():int disputeCount():int"
            + " today():int reasonOf(int):int issuerAccount(int):int!I merchantAccount(int):int!I networkAccount():int"
            + " disputed(int):int!I state(int):int!I deadline(int):int!I evidence(int):int!I isWithMerchant(int):boolean!I"
            + " score(int):int!I wouldWin(int,int):boolean!IA bestEvidence(int):int!I nextDeadline():int rate(int):int!I"
            + " isWatched(int):boolean!I exposure(int):int!I settled(int):int!I purchase(int,int,int):int!IAS"
            + " file(int,int,int):int!IAS represent(int,int):int!IAS escalate(int):int!IS contest(int,int):int!IAS"
            + " accept(int):int!IS pass(int):int!AS undo():int checksum():long";
    private static final String CONSTANTS = "SYNTAX_ERROR=-2 OUT_OF_RANGE=-3 TOO_MANY=-4 TOO_DEEP=-5 FILED=0"
            + " REPRESENTED=1 ESCALATED=2 ARBITRATION=3 ISSUER_WON=4 MERCHANT_WON=5";

    public static void main(String[] args) throws IllegalAccessException {
        Class<?> face = ChargebackProcessor.class;
        Due.is("the class is public and final", face.getModifiers(), Modifier.PUBLIC | Modifier.FINAL);
        Due.same("the methods", methods(face), sorted(METHODS));
        Due.same("the constants", constants(face), sorted(CONSTANTS));
        Constructor<?>[] constructors = face.getDeclaredConstructors();
        Due.is("the number of constructors", constructors.length, 1);
        Due.is("the constructor's parameters", constructors[0].getParameterCount(), 0);
        Due.is("the constructor is public", Modifier.isPublic(constructors[0].getModifiers()), true);
        privateNames(face);
        staticState(face);
        for (Class<?> inside : face.getDeclaredClasses()) {
            Due.is(inside + " is static", Modifier.isStatic(inside.getModifiers()), true);
            Due.is(inside + " is public or protected", (inside.getModifiers() & (Modifier.PUBLIC | Modifier.PROTECTED)) != 0, false);
            privateNames(inside);
            staticState(inside);
        }
        Due.end();
    }

    private static String methods(Class<?> face) {
        StringBuilder all = new StringBuilder();
        for (Method method : face.getDeclaredMethods()) {
            if (!Modifier.isPrivate(method.getModifiers()) && !method.isSynthetic()) {
                StringBuilder parameters = new StringBuilder();
                for (Class<?> type : method.getParameterTypes()) {
                    parameters.append(parameters.length() == 0 ? "" : ",").append(type.getName());
                }
                all.append(method.getName()).append('(').append(parameters).append("):").append(method.getReturnType().getName())
                        .append(exceptions(method)).append(' ');
                Due.is(method + " is public and not static", method.getModifiers(), Modifier.PUBLIC);
            }
        }
        return sorted(all.toString());
    }

    private static String exceptions(Method method) {
        StringBuilder all = new StringBuilder();
        for (Class<?> type : method.getExceptionTypes()) {
            boolean isIndex = type == IndexOutOfBoundsException.class;
            boolean isArgument = type == IllegalArgumentException.class;
            boolean isState = type == IllegalStateException.class;
            all.append(all.length() == 0 ? "!" : "").append(isIndex ? "I" : isArgument ? "A" : isState ? "S" : type.getName());
        }
        return all.toString();
    }

    private static String constants(Class<?> face) throws IllegalAccessException {
        StringBuilder all = new StringBuilder();
        for (Field field : face.getDeclaredFields()) {
            if (!Modifier.isPrivate(field.getModifiers())) {
                all.append(field.getName()).append('=').append(field.get(null)).append(' ');
                Due.is(field + " is public, static and final", field.getModifiers(), Modifier.PUBLIC | Modifier.STATIC | Modifier.FINAL);
                Due.same(field + ", its type,", field.getType().getName(), "int");
            }
        }
        return sorted(all.toString());
    }

    private static void privateNames(Class<?> type) {
        for (Method method : type.getDeclaredMethods()) {
            boolean hidden = type != ChargebackProcessor.class || Modifier.isPrivate(method.getModifiers());
            Due.is(type + " has its own " + method.getName(), hidden && (" " + METHODS).contains(" " + method.getName() + "("), false);
        }
    }

    private static void staticState(Class<?> type) {
        for (Field field : type.getDeclaredFields()) {
            if (Modifier.isStatic(field.getModifiers())) {
                Due.is(field + " is final", Modifier.isFinal(field.getModifiers()), true);
            }
        }
    }

    private static String sorted(String words) {
        return String.join(" ", new TreeSet<>(java.util.List.of(words.trim().split(" "))));
    }
}
