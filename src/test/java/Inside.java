import java.lang.reflect.Array;
import java.lang.reflect.Field;
import java.lang.reflect.Modifier;
import java.util.List;

/** Writes down all that a ledger keeps from call to call: a call that throws must leave it as it was. */
final class Inside {
    private static final List<String> KEPT = List.of("book", "past", "nextStep", "undoable", "knocks", "typing");

    private Inside() {
    }

    static String of(Pensionledger ledger) {
        StringBuilder to = new StringBuilder();
        try {
            for (String name : KEPT) {
                Field field = Pensionledger.class.getDeclaredField(name);
                field.setAccessible(true);
                write(to, field.get(ledger));
            }
        } catch (ReflectiveOperationException e) {
            throw new IllegalStateException(e);
        }
        return to.toString();
    }

    private static void write(StringBuilder to, Object kept) throws IllegalAccessException {
        if (kept == null || kept instanceof Number) {
            to.append(kept).append(' ');
        } else if (kept.getClass().isArray()) {
            for (int i = 0; i < Array.getLength(kept); i++) {
                write(to, Array.get(kept, i));
            }
        } else {
            for (Field field : kept.getClass().getDeclaredFields()) {
                if (!Modifier.isStatic(field.getModifiers())) {
                    field.setAccessible(true);
                    write(to, field.get(kept));
                }
            }
        }
    }
}
