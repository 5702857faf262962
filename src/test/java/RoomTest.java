import java.lang.management.ManagementFactory;
import java.lang.reflect.Array;
import java.lang.reflect.Field;
import java.lang.reflect.Modifier;
import java.util.ArrayDeque;
import java.util.Collections;
import java.util.Deque;
import java.util.IdentityHashMap;
import java.util.Set;

/** The room that all calls of a run share: what a new object takes, and that calls take none. */
public final class RoomTest extends Checks {
    private static final String TEXT = "p0s538;p1h437;p0k496;p1o548;p0b748;p1t659;c24;l-1;b0;";
    private static final int CALLS = 512;
    private static final int NAMES = 28;
    /** One object a call, of the least size that there is, would be more. */
    private static final long FEW_BYTES = 4000;

    private int objects = 0;
    private int fieldsAndElements = 0;
    private long answers = 0;

    public static void main(String[] args) throws IllegalAccessException {
        RoomTest test = new RoomTest();
        test.ofOne();
        test.ofCalls();
        test.end();
    }

    /** Of some 600,000 objects and arrays, 7.3 million fields and elements: 1,000 may be made. */
    private void ofOne() throws IllegalAccessException {
        Set<Object> seen = Collections.newSetFromMap(new IdentityHashMap<>());
        Deque<Object> left = new ArrayDeque<>();
        left.add(new NineteenSecondsLeft());
        while (!left.isEmpty()) {
            Object one = left.remove();
            if (seen.add(one)) {
                objects++;
                look(one, left);
            }
        }
        holds(objects + " objects and arrays", objects > 1 && objects <= 600);
        holds(fieldsAndElements + " fields and elements", fieldsAndElements <= 7300);
    }

    private void look(Object one, Deque<Object> left) throws IllegalAccessException {
        if (one.getClass().isArray()) {
            fieldsAndElements += Array.getLength(one);
            holds("numbers alone in arrays", one.getClass().getComponentType().isPrimitive());
            return;
        }
        for (Field f : one.getClass().getDeclaredFields()) {
            if (!Modifier.isStatic(f.getModifiers())) {
                fieldsAndElements++;
                f.setAccessible(true);
                if (!f.getType().isPrimitive() && f.get(one) != null) {
                    left.add(f.get(one));
                }
            }
        }
    }

    private void ofCalls() {
        for (int name = 0; name < NAMES; name++) {
            // The least of some: the first one loads classes, another may be cut by the machine's own work.
            long bytes = taken(name);
            for (int again = 0; again < 3; again++) {
                bytes = Math.min(bytes, taken(name));
            }
            holds("call " + name + " takes " + bytes + " bytes", bytes < FEW_BYTES);
        }
        holds("they answer", answers != 0);
    }

    private long taken(int name) {
        NineteenSecondsLeft x = game(TEXT);
        x.image();
        com.sun.management.ThreadMXBean threads =
                (com.sun.management.ThreadMXBean) ManagementFactory.getThreadMXBean();
        long thread = Thread.currentThread().getId();
        long ahead = threads.getThreadAllocatedBytes(thread);
        for (int i = 0; i < CALLS - 60; i++) {
            answers += call(x, name, i);
        }
        return threads.getThreadAllocatedBytes(thread) - ahead;
    }

    /** The i-th call of a name; of hall() and judge() with what they look at ahead of it. */
    private static int call(NineteenSecondsLeft x, int name, int i) {
        switch (name) {
            case 0: return x.letter(i % 256);
            case 1: return i % 4 == 3 ? x.hall() : x.letter("b1;".charAt(i % 4));
            case 2: return x.player(i % 7, i % 5);
            case 3: return x.hits(i % 7, i % 3, i % 26);
            case 4: return x.set(i % 10, i % 3);
            case 5: return x.here();
            case 6: return x.of(i % 25, i % 13, i % 2);
            case 7: return x.best(i % 25, i % 13, i % 2);
            case 8: return x.from(i % 13, i % 2);
            case 9: return x.point();
            case 10: return x.twoOrThree();
            case 11: return x.rebound();
            case 12: return i == 0 ? x.set(2, 1) : x.foul(i % 6);
            case 13: return i == 0 ? x.set(2, 1) : x.whom(i % 2);
            case 14: return x.freed(i % 6);
            case 15: return x.doubled(i % 6, i * 5 % 7);
            case 16: return x.howGood(i % 6, i * 5 % 7);
            case 17: return x.call();
            case 18: return x.on();
            case 19: return x.byLaw(i % 5);
            case 20: return x.fairest();
            case 21: return x.hand(i % 26);
            case 22: return x.row(i % 10);
            case 23: return i % 4 == 3 ? x.judge() : x.row(i % 2 * 2);
            case 24: return x.lots(30, i);
            case 25: return x.image();
            case 26: return x.restore();
            default: return x.count(i % 18);
        }
    }
}
