import java.lang.reflect.Array;
import java.lang.reflect.Field;
import java.lang.reflect.Modifier;
import java.util.ArrayDeque;
import java.util.Collections;
import java.util.IdentityHashMap;
import java.util.Set;

/**
 * LANGUAGE.md, rule 12: what a run makes is counted. An object stays small, and no call makes it grow; that no call
 * makes anything at all is looked at by RulesTest.
 */
public final class RoomTest {
  private int objects = 0;
  private int cells = 0;

  public static void main(String[] args) throws Exception {
    RoomTest fresh = of(new LostAndTaxed());
    RoomTest full = of(States.full());
    System.out.println(fresh.objects + " objects, " + fresh.cells + " fields and elements");
    // Some 600,000 and 7.3 million in all: room for thousands of objects in one run.
    Check.holds("objects: " + fresh.objects, fresh.objects > 50 && fresh.objects <= 150);
    Check.holds("fields and elements: " + fresh.cells, fresh.cells > 500 && fresh.cells <= 1500);
    Check.due("as many objects when full", full.objects, fresh.objects);
    Check.due("as many fields and elements when full", full.cells, fresh.cells);
    Check.end();
  }

  private static RoomTest of(LostAndTaxed x) throws IllegalAccessException {
    RoomTest room = new RoomTest();
    Set<Object> met = Collections.newSetFromMap(new IdentityHashMap<>());
    ArrayDeque<Object> open = new ArrayDeque<>();
    open.add(x);
    while (!open.isEmpty()) {
      Object next = open.remove();
      if (met.add(next)) {
        room.objects++;
        room.lookInto(next, open);
      }
    }
    return room;
  }

  private void lookInto(Object object, ArrayDeque<Object> open) throws IllegalAccessException {
    if (object.getClass().isArray()) {
      int length = Array.getLength(object);
      cells += length;
      for (int k = 0; k < length && !object.getClass().getComponentType().isPrimitive(); k++) {
        Object element = Array.get(object, k);
        if (element != null) {
          open.add(element);
        }
      }
      return;
    }
    for (Field field : object.getClass().getDeclaredFields()) {
      if (!Modifier.isStatic(field.getModifiers())) {
        cells++;
        field.setAccessible(true);
        Object value = field.get(object);
        if (value != null && !field.getType().isPrimitive()) {
          open.add(value);
        }
      }
    }
  }
}
