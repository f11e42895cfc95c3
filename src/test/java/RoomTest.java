import java.lang.management.ManagementFactory;
import java.lang.reflect.Array;
import java.lang.reflect.Field;
import java.lang.reflect.Modifier;
import java.util.ArrayDeque;
import java.util.Collections;
import java.util.IdentityHashMap;
import java.util.Set;

/**
 * All memory is the engine's own: what an engine keeps, and what its calls make, when its tape, its modules and its store are
 * full, and all its functions have changed over.
 */
public final class RoomTest {
  private static final int[] NO = {};
  private static final int MOST_OBJECTS = 20000;
  private static final int MOST_ELEMENTS = 2500000;

  public static void main(String[] args) throws Exception {
    var threads = (com.sun.management.ThreadMXBean) ManagementFactory.getThreadMXBean();
    play(new ModuleEngine());
    long before = threads.getCurrentThreadAllocatedBytes();
    ModuleEngine e = new ModuleEngine();
    long made = threads.getCurrentThreadAllocatedBytes() - before;
    Kit.due("bytes of a new object: " + made, made < 2000000, true);
    play(e);
    count(e);
    steps(threads);
    Kit.finish();
  }

  /** A module that fills its share of the tape: functions with many instructions, branches and locals. */
  private static byte[] large(int number) {
    byte[] code = Kit.times(80, 32, 0, 65, 1, 106, 34, 0, 4, 64, 1, 5, 2, 64, 65, 0, 14, 2, 0, 0, 0, 11, 11);
    byte[] body = Kit.bodyWith(Kit.bytes(1, 3, 127), code);
    return Kit.module(Kit.section(1, 1, Kit.type(NO, NO)), Kit.section(3, 1, 0), Kit.section(4, 2, 112, 0, 20, 111, 0, 20),
      number < 8 ? Kit.section(5, 1, 0, 1) : Kit.bytes(), Kit.section(7, 1, "f", 0, 0), Kit.section(10, 1, body));
  }

  private static void play(ModuleEngine e) {
    e.tier(1);
    for (int i = 0; i < 16; i++) {
      Kit.due("module", Kit.load(e, large(i)), i);
      Kit.due("instance", e.make(i), i);
      Kit.run(e, i, 0);
      Kit.due("it has ended", e.state(0), 2);
    }
    Kit.due("functions that have changed over", e.state(11), 16);
    Kit.due("pages left", e.state(8), 0);
    while (e.feed(0x0061736d, 0x01000000, 0x01040160, 0x00000302, 0x01000a04) > 0) Kit.due("no module more", e.module(20), -2);
  }

  private static void count(ModuleEngine e) throws IllegalAccessException {
    Set<Object> seen = Collections.newSetFromMap(new IdentityHashMap<>());
    ArrayDeque<Object> open = new ArrayDeque<>();
    open.add(e);
    seen.add(e);
    long elements = 0;
    while (!open.isEmpty()) {
      Object o = open.poll();
      Class<?> c = o.getClass();
      if (c.isArray()) {
        elements += Array.getLength(o);
        if (!c.getComponentType().isPrimitive()) for (Object x : (Object[]) o) if (x != null && seen.add(x)) open.add(x);
        continue;
      }
      for (Field f : c.getDeclaredFields()) {
        if (Modifier.isStatic(f.getModifiers())) continue;
        elements++;
        f.setAccessible(true);
        Object x = f.getType().isPrimitive() ? null : f.get(o);
        if (x != null && seen.add(x)) open.add(x);
      }
    }
    Kit.due("objects and arrays: " + seen.size(), seen.size() < MOST_OBJECTS, true);
    Kit.due("fields and elements: " + elements, elements < MOST_ELEMENTS, true);
    System.out.println(seen.size() + " objects and arrays, " + elements + " fields and elements");
  }

  /** Steps and refused calls make nothing, on either machine. */
  private static void steps(com.sun.management.ThreadMXBean threads) {
    byte[] loop = Kit.simple(new int[] {127}, NO, 3, 64, 32, 0, 65, 1, 106, 33, 0, 2, 64, 32, 0, 13, 0, 1, 11, 12, 0, 11);
    for (int tier = 0; tier < 2; tier++) {
      ModuleEngine e = Kit.engine(loop);
      e.tier(tier);
      e.argument(1);
      e.call(0, 0);
      e.run(1000);
      long before = threads.getCurrentThreadAllocatedBytes();
      for (int i = 0; i < 100; i++) {
        e.run(100000);
        e.call(0, 0);
        e.make(0);
        e.module(-1);
        e.answer();
        e.state(i);
      }
      long made = threads.getCurrentThreadAllocatedBytes() - before;
      Kit.due("bytes that ten million steps made: " + made, made < 20000, true);
      Kit.due("it runs still", e.state(0), 1);
    }
  }
}
