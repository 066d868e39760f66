import java.lang.reflect.Constructor;
import java.lang.reflect.Field;
import java.lang.reflect.Method;
import java.lang.reflect.Modifier;
import java.util.ArrayList;
import java.util.Arrays;
import java.util.Collections;
import java.util.List;

/** The public face is the document's, and a new object (promise 1) is as it says. */
public final class FaceTest {
    private static final String[] FACE = {
        "boolean type(long,int)",
        "int about(int,int) NoSuchElementException IndexOutOfBoundsException",
        "int come(int) NoSuchElementException",
        "int got(int,int) NoSuchElementException IndexOutOfBoundsException",
        "int out(int) IndexOutOfBoundsException",
        "int packet(int,int,int) NoSuchElementException IndexOutOfBoundsException",
        "int run(int) IllegalArgumentException",
        "int session(int,int) NoSuchElementException IndexOutOfBoundsException IllegalStateException",
        "void begin(int) NoSuchElementException IllegalStateException",
        "void damage(int,int,int,int) NoSuchElementException IndexOutOfBoundsException IllegalArgumentException",
        "void hash()",
        "void multiply() IllegalArgumentException",
        "void send(int) NoSuchElementException IllegalArgumentException IllegalStateException",
        "void set(int) IndexOutOfBoundsException IllegalArgumentException",
        "void stream(long,int) IllegalArgumentException",
        "void tag() IllegalArgumentException",
    };

    public static void main(String[] args) {
        face();
        newObject();
        objectsShareNothing();
        Kit.finish();
    }

    private static void face() {
        List<String> found = new ArrayList<>();
        List<String> names = new ArrayList<>();
        for (Method method : SealedWire.class.getDeclaredMethods()) {
            if (Modifier.isPublic(method.getModifiers())) {
                found.add(shown(method));
                names.add(method.getName());
            }
        }
        Collections.sort(found);
        Kit.same("the public methods", found.toString(), Arrays.asList(FACE).toString());
        for (Method method : SealedWire.class.getDeclaredMethods()) {
            int modifiers = method.getModifiers();
            Kit.same(method + " is public or private",
                    Modifier.isPublic(modifiers) || Modifier.isPrivate(modifiers), true);
            Kit.same(method + " has a name of its own",
                    Modifier.isPrivate(modifiers) && names.contains(method.getName()), false);
        }
        for (Field field : SealedWire.class.getDeclaredFields()) {
            Kit.same(field + " is private", Modifier.isPrivate(field.getModifiers()), true);
        }
        Constructor<?>[] constructors = SealedWire.class.getDeclaredConstructors();
        Kit.same("constructors", constructors.length, 1);
        Kit.same("the constructor", constructors[0].toString(), "public SealedWire()");
        Kit.same("final", Modifier.isFinal(SealedWire.class.getModifiers()), true);
    }

    private static String shown(Method method) {
        StringBuilder text = new StringBuilder();
        text.append(method.getReturnType().getName()).append(' ').append(method.getName()).append('(');
        for (int i = 0; i < method.getParameterCount(); i++) {
            text.append(i == 0 ? "" : ",").append(method.getParameterTypes()[i].getName());
        }
        text.append(')');
        for (Class<?> exception : method.getExceptionTypes()) {
            text.append(' ').append(exception.getSimpleName());
        }
        return text.toString();
    }

    private static void newObject() {
        Kit.sentence("Both ends live, have no keys; all secrets and rows are zeros; the tape is empty");
        SealedWire wire = new SealedWire();
        for (int end = 0; end < 2; end++) {
            int who = end;
            Kit.same("about a new end " + end, Kit.about(wire, end), "1 0 0 0 0 0 0 0 -1");
            Kit.thrown("session of a new end", () -> wire.session(who, 0), Kit.STATE);
            Kit.thrown("got of a new end", () -> wire.got(who, 0), Kit.INDEX);
            Kit.thrown("packet to a new end", () -> wire.packet(who, 0, -1), Kit.NO_SUCH);
            Kit.same("come to a new end", wire.come(end), -1);
        }
        Kit.thrown("out before anything came out", () -> wire.out(0), Kit.INDEX);
        wire.hash();
        Kit.same("the new tape is empty", Kit.out(wire, 32), Oracle.hash(new byte[0]));
        zeros();
    }

    /** Secrets, cookies and the trusted row are zeros: an exchange shows all of them. */
    private static void zeros() {
        byte[] zeros = new byte[32];
        SealedWire wire = new SealedWire();
        wire.begin(0);
        Kit.same("no keys, cookie of zeros", Kit.packet(wire, 1, 0),
                Oracle.plain(Kit.join(Kit.bytes(20), new byte[8])));
        wire.come(1);
        Kit.same("the server's cookie of zeros", Kit.packet(wire, 0, 0),
                Oracle.plain(Kit.join(Kit.bytes(20), new byte[8])));
        wire.come(0);
        byte[] own = Oracle.publicRow(zeros);
        Kit.same("the client's secret of zeros", Kit.packet(wire, 1, 0),
                Oracle.plain(Kit.join(Kit.bytes(30), own)));
        wire.come(1);
        byte[] reply = Kit.packet(wire, 0, 0);
        Kit.same("the host's secret of zeros", Arrays.copyOfRange(reply, 6, 38), own);
        Kit.same("the server's secret of zeros", Arrays.copyOfRange(reply, 38, 70), own);
        // With the host's row and the proof made right for a row of zeros the client goes on.
        byte[] init = Kit.join(Kit.bytes(20), new byte[8]);
        byte[] h = Oracle.hash(Kit.join(init, init, zeros, own, own, Oracle.multiply(zeros, own)));
        byte[] proof = Oracle.hash(Kit.join(Oracle.multiply(zeros, zeros), h));
        for (int i = 0; i < 32; i++) {
            wire.damage(0, 0, 6 + i, reply[6 + i] & 255);
            wire.damage(0, 0, 70 + i, (reply[70 + i] ^ proof[i]) & 255);
        }
        Kit.same("come", wire.come(0), 31);
        Kit.same("the client trusts zeros", wire.about(0, 0), 1);
        Kit.same("the client's session", Kit.session(wire, 0), h);
    }

    private static void objectsShareNothing() {
        SealedWire one = new SealedWire();
        SealedWire other = new SealedWire();
        one.type(7, 1);
        one.begin(0);
        other.hash();
        Kit.same("the other's tape", Kit.out(other, 32), Oracle.hash(new byte[0]));
        Kit.same("the other's wire", other.about(1, 5), 0);
    }
}
