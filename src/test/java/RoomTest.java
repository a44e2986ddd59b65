import java.lang.reflect.Array;
import java.lang.reflect.Field;
import java.lang.reflect.Modifier;
import java.util.IdentityHashMap;
import java.util.Map;

/**
 * Counts the objects and elements that a machine holds behind its dearest runs. Rows that grow are
 * doubled, so that all that was ever made is at most twice what is held.
 */
public final class RoomTest extends Asking {
  private static final int MOST_OBJECTS = 600000;
  private static final int MOST_ELEMENTS = 7300000;

  private static final class Room {
    int objects;
    long elements;
    private final Map<Object, Boolean> seen = new IdentityHashMap<>();

    void count(Object held) throws IllegalAccessException {
      if (held == null || seen.put(held, true) != null) {
        return;
      }
      objects++;
      if (held.getClass().isArray()) {
        elements += Array.getLength(held);
        return;
      }
      for (Field field : held.getClass().getDeclaredFields()) {
        if (!Modifier.isStatic(field.getModifiers())) {
          elements++;
          field.setAccessible(true);
          if (!field.getType().isPrimitive()) {
            count(field.get(held));
          }
        }
      }
    }
  }

  private static Room roomOf(Rexworth x) throws IllegalAccessException {
    Room room = new Room();
    room.count(x);
    return room;
  }

  private static void dear(String name, String text, String... arguments) throws Exception {
    Rexworth x = ran(2000, text, arguments);
    x.isTrue();
    Room first = roomOf(x);
    System.out.println(name + ": " + first.objects + " objects, " + first.elements + " elements");
    due(name + ": the objects are few", 2 * first.objects < MOST_OBJECTS, true);
    due(name + ": the elements are few", 2 * first.elements < MOST_ELEMENTS, true);
    for (int i = 0; i < 9; i++) {
      x.run(2000);
      x.isTrue();
    }
    due(name + ": no call makes rows anew", roomOf(x).elements, first.elements);
  }

  public static void main(String[] args) throws Exception {
    dear("a small run", "say 1");
    dear("lines said", "a = copies('x', 200);f:;say a;signal f");
    dear("lines that wait", "a = copies('x', 200);queue a;f:;queue a;pull b;signal f");
    dear("commands", "a = copies('x', 200);f:;a;signal f");
    dear("names that are long", "a = copies('x', 195);i = 0;f:;i = i + 1;x.a.i = i;signal f");
    dear("calls", "f:;a = copies('x', 200);call f a, a, a, a, a, a, a, a");
    dear("numbers", "digits 20;f:;a = 99999999999999999999**99;signal f");
    dear("interprets", "a = 'b = 1'copies('+1', 97);f:;interpret a;signal f");
    dear("elements by templates", "s = 'parse var i';"
        + "c = copies('x', 196);parse arg p, q, r, t;s = s p q r t;do j = 1;i = c||j;interpret s;end",
        "a.i 1b.i 2c.i 3d.i 4e.i 5f.i 6g.i 7h.i 8k.i", "9m.i 1n.i 2o.i 3p.i 4q.i 5r.i 6s.i 7t.i 8",
        "u.i 9v.i 1w.i 2x.i 3y.i 4z.i 5aa.i 6ab.i 7", "ac.i 8ad.i 9ae.i 1af.i 2ag.i 3ah.i");
    finish();
  }
}
